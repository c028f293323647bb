/-! ===== both: pairs ===== -/
def aS (t : NT) : Int32 := NT.cl t ||| (vtS t (NT.E t) 0 0)
def pq (t : NT) (d e : Nat) : Int32 := if bt (aS t) d = false ∧ bt (aS t) e = false ∧ ¬ dcS t (((1 : Int32) <<< (nI d &&& 31)) ||| ((1 : Int32) <<< (nI e &&& 31))) &&& ((dryS (NT.J t) (trS (snOf t) (solveS (snOf t)).1)) ^^^ -1) = 0 then 1 else 0
def pr2 (t : NT) : Nat → Nat → Int32 → Int32
  | 0, _, a => a
  | m + 1, d, a => pr2 t m (d + 1) (accI (fun e => pq t d e) m (d + 1) a)
def mpr2 (t : NT) : Nat → Nat → Int32 → Int32
  | 0, _, a => a
  | m + 1, e, a => mpr2 t m (e + 1) (accI (fun k => pq t k e) e 0 a)
theorem accI_app (f : Nat → Int32) : ∀ (n m j : Nat) (a : Int32), accI f (n + m) j a = accI f m (j + n) (accI f n j a) := by
  intro n
  induction n with
  | zero => intro m j a; rw [Nat.zero_add]; rfl
  | succ n ih =>
    intro m j a
    rw [show n + 1 + m = (n + m) + 1 by omega]
    show accI f (n + m) (j + 1) (a + f j) = accI f m (j + (n + 1)) (accI f n (j + 1) (a + f j))
    rw [ih m (j + 1) (a + f j), show j + 1 + n = j + (n + 1) by omega]
theorem accI_z {f : Nat → Int32} : ∀ (m j : Nat) (a : Int32), (∀ i, j ≤ i → i < j + m → f i = 0) → accI f m j a = a := by
  intro m
  induction m with
  | zero => intro j a _; rfl
  | succ m ih =>
    intro j a h
    show accI f m (j + 1) (a + f j) = a
    rw [h j (by omega) (by omega), Int32.add_zero]; exact ih _ _ (fun i h1 h2 => h i (by omega) (by omega))
theorem accI_a (f : Nat → Int32) : ∀ (m : Nat) (a : Int32), accI f m 0 a = a + sm f m := by
  intro m
  induction m with
  | zero => intro a; exact (Int32.add_zero a).symm
  | succ m ih => intro a; rw [accI_succ, ih, Nat.zero_add, Int32.add_assoc]; rfl
theorem sm_zero : ∀ N, sm (fun _ => 0) N = 0
  | 0 => rfl
  | N + 1 => by show sm (fun _ => 0) N + 0 = 0; rw [sm_zero N]; rfl
theorem sm_pl (f g : Nat → Int32) : ∀ N, sm (fun i => f i + g i) N = sm f N + sm g N
  | 0 => rfl
  | N + 1 => by
    show sm (fun i => f i + g i) N + (f N + g N) = (sm f N + f N) + (sm g N + g N)
    rw [sm_pl f g N]; ac_rfl
theorem sm_sw (g : Nat → Nat → Int32) (M : Nat) : ∀ N, sm (fun d => sm (fun e => g d e) M) N = sm (fun e => sm (fun d => g d e) N) M
  | 0 => (sm_zero M).symm
  | N + 1 => by
    show sm (fun d => sm (fun e => g d e) M) N + sm (fun e => g N e) M = sm (fun e => sm (fun d => g d e) N + g N e) M
    rw [sm_sw g M N, sm_pl]
def gq2 (t : NT) (d e : Nat) : Int32 := if d < e then pq t d e else 0
theorem pr2_sm {t : NT} : ∀ (m d : Nat) (a : Int32), d + m = NT.E t → pr2 t m d a = accI (fun d => sm (fun e => gq2 t d e) (NT.E t)) m d a := by
  intro m
  induction m with
  | zero => intro d a _; rfl
  | succ m ih =>
    intro d a h
    show pr2 t m (d + 1) (accI (fun e => pq t d e) m (d + 1) a) = accI (fun d => sm (fun e => gq2 t d e) (NT.E t)) m (d + 1) (a + sm (fun e => gq2 t d e) (NT.E t))
    have e : accI (fun e => pq t d e) m (d + 1) a = a + sm (fun e => gq2 t d e) (NT.E t) := by
      rw [← accI_a, show NT.E t = (d + 1) + m by omega, accI_app, accI_z (f := fun e => gq2 t d e) (d + 1) 0 a (fun i _ hi => if_neg (by omega)), Nat.zero_add]
      exact accI_cong m (d + 1) a (fun i h1 h2 => (if_pos (by omega)).symm)
    rw [e]; exact ih _ _ (by omega)
theorem mpr2_sm {t : NT} : ∀ (m e : Nat) (a : Int32), e + m = NT.E t → mpr2 t m e a = accI (fun e => sm (fun d => gq2 t d e) (NT.E t)) m e a := by
  intro m
  induction m with
  | zero => intro d a _; rfl
  | succ m ih =>
    intro d a h
    show mpr2 t m (d + 1) (accI (fun k => pq t k d) d 0 a) = accI (fun e => sm (fun d => gq2 t d e) (NT.E t)) m (d + 1) (a + sm (fun k => gq2 t k d) (NT.E t))
    have e : accI (fun k => pq t k d) d 0 a = a + sm (fun k => gq2 t k d) (NT.E t) := by
      rw [← accI_a, show NT.E t = d + (m + 1) by omega, accI_app, accI_z (f := fun k => gq2 t k d) (m + 1) (0 + d) _ (fun i h1 _ => if_neg (by omega))]
      exact accI_cong d 0 a (fun i h1 h2 => (if_pos (by omega)).symm)
    rw [e]; exact ih _ _ (by omega)
theorem pairs_eq (t : NT) : mpr2 t (NT.E t) 0 0 = pr2 t (NT.E t) 0 0 := by
  rw [mpr2_sm _ _ _ (by omega), pr2_sm _ _ _ (by omega), accI_sm, accI_sm, sm_sw]
theorem and_two {x : Int32} {d e : Nat} (hd : d < 32) (he : e < 32) : x &&& (((1 : Int32) <<< (nI d &&& 31)) ||| ((1 : Int32) <<< (nI e &&& 31))) = 0 ↔ bt x d = false ∧ bt x e = false := by
  constructor
  · intro q
    have k : ∀ i, i < 32 → bt (x &&& (((1 : Int32) <<< (nI d &&& 31)) ||| ((1 : Int32) <<< (nI e &&& 31)))) i = false := fun i _ => by rw [q]; exact b_0 i
    have k1 := k d hd
    have k2 := k e he
    rw [b_and, b_or, b_one hd hd, b_one he hd] at k1
    rw [b_and, b_or, b_one hd he, b_one he he] at k2
    simp at k1 k2
    exact ⟨k1, k2⟩
  · intro q
    refine b_ext (fun i hi => ?_)
    rw [b_and, b_or, b_one hd hi, b_one he hi, b_0]
    by_cases z1 : i = d
    · rw [z1, q.1]; rfl
    · by_cases z2 : i = e
      · rw [z2, q.2]; rfl
      · simp [z1, z2]
set_option maxRecDepth 100000 in
set_option maxHeartbeats 4000000 in
theorem pair_in {t : NT} (ok : okT t) (h0 : PH) {d : Nat} (hd : d < NT.E t) {Q : Option Value → PH → Prop} : ∀ (m e : Nat) (acc : Int32) (h : PH), e + m = NT.E t → NetC h 15 t → Fr pap h0 h → (∀ h', NetC h' 15 t → Fr pap h0 h' → RT mX7_pairs 8 113 [some (.ref 0), some (.int (aS t)), some (.int (dryS (NT.J t) (trS (snOf t) (solveS (snOf t)).1))), some (.int (accI (fun e => pq t d e) m e acc)), some (.int (nI d)), none, none] [] h' Q) → RT mX7_pairs 8 61 [some (.ref 0), some (.int (aS t)), some (.int (dryS (NT.J t) (trS (snOf t) (solveS (snOf t)).1))), some (.int acc), some (.int (nI d)), some (.int (nI e)), none] [] h Q := by
  have hE14 := ok.2.2.1
  have np : ∀ j, j < 10 → ¬ pap (15 + j) := fun j hj q => by have := q.1; omega
  intro m
  induction m with
  | zero =>
    intro e acc h he nc fr K
    have k1 : h.1 15 1 = nI (NT.E t) := nc.2.1
    refine r_iload_5 dX7_pairs_61 ?_
    refine r_aload_0 dX7_pairs_63 ?_
    refine r_getR (a := 15) dX7_pairs_64 fl_X7_37 rfl rfl ?_
    refine r_getI dX7_pairs_67 fl_X7_105 rfl ?_
    rw [k1]
    refine r_icmpN_ge 113 dX7_pairs_70 (by decide) (by omega) (by omega) (fun c_70 => ?_) (fun c_70 => by omega)
    refine RT.sub (lv' := [some (.ref 0), some (.int (aS t)), some (.int (dryS (NT.J t) (trS (snOf t) (solveS (snOf t)).1))), some (.int acc), some (.int (nI d)), none, none]) (by simp [lsub]) ?_
    exact K h nc fr
  | succ m ih =>
    intro e acc h he nc fr K
    have k1 : h.1 15 1 = nI (NT.E t) := nc.2.1
    have go : ∀ v h1, pq t d e = v → NetC h1 15 t → Fr pap h0 h1 → RT mX7_pairs 8 61 [some (.ref 0), some (.int (aS t)), some (.int (dryS (NT.J t) (trS (snOf t) (solveS (snOf t)).1))), some (.int (acc + v)), some (.int (nI d)), some (.int (nI (e + 1))), none] [] h1 Q := fun v h1 ev nc1 fr1 => by
      have K' : ∀ h', NetC h' 15 t → Fr pap h0 h' → RT mX7_pairs 8 113 [some (.ref 0), some (.int (aS t)), some (.int (dryS (NT.J t) (trS (snOf t) (solveS (snOf t)).1))), some (.int (accI (fun e => pq t d e) m (e + 1) (acc + pq t d e))), some (.int (nI d)), none, none] [] h' Q := K
      rw [ev] at K'
      exact ih (e + 1) _ h1 (by omega) nc1 fr1 K'
    by_cases ha : bt (aS t) d = false ∧ bt (aS t) e = false
    · by_cases hc : dcS t (((1 : Int32) <<< (nI d &&& 31)) ||| ((1 : Int32) <<< (nI e &&& 31))) &&& ((dryS (NT.J t) (trS (snOf t) (solveS (snOf t)).1)) ^^^ -1) = 0
      · skip
        refine r_iload_5 dX7_pairs_61 ?_
        refine r_aload_0 dX7_pairs_63 ?_
        refine r_getR (a := 15) dX7_pairs_64 fl_X7_37 rfl rfl ?_
        refine r_getI dX7_pairs_67 fl_X7_105 rfl ?_
        rw [k1]
        refine r_icmpN_ge 113 dX7_pairs_70 (by decide) (by omega) (by omega) (fun c_70 => by omega) (fun c_70 => ?_)
        refine r_iconst (v := 1) dX7_pairs_73 (by decide) ?_
        refine r_iload_4 dX7_pairs_74 ?_
        refine r_ishl dX7_pairs_76 ?_
        refine r_iconst (v := 1) dX7_pairs_77 (by decide) ?_
        refine r_iload_5 dX7_pairs_78 ?_
        refine r_ishl dX7_pairs_80 ?_
        refine r_ior dX7_pairs_81 ?_
        refine r_istore_6 dX7_pairs_82 ?_
        refine r_iload_1 dX7_pairs_84 ?_
        refine r_iload_6 dX7_pairs_85 ?_
        refine r_iand dX7_pairs_87 ?_
        refine r_if_ne 107 dX7_pairs_88 (by decide) (fun c_88 => by exact absurd ((and_two (by omega) (by omega)).mpr ha) c_88) (fun c_88 => ?_)
        refine r_aload_0 dX7_pairs_91 ?_
        refine r_iload_6 dX7_pairs_92 ?_
        refine r_cVQ1 mX7_dryIfClosed dX7_pairs_94 ml_X7_262 mo_X7_dryIfClosed rfl (k_dryIf ok nc _) (by decide) (fun h1 p1 => ?_)
        have nc1 : NetC h1 15 t := nc.fr p1 np
        refine r_iload_2 dX7_pairs_97 ?_
        refine r_iconst (v := (-1)) dX7_pairs_98 (by decide) ?_
        refine r_ixor dX7_pairs_99 ?_
        refine r_iand dX7_pairs_100 ?_
        refine r_if_eq 107 dX7_pairs_101 (by decide) (fun c_101 => ?_) (fun c_101 => by exact absurd hc c_101)
        refine r_iincN_5 dX7_pairs_107 ?_
        refine r_goto 61 dX7_pairs_110 (by decide) ?_
        have a0 := go 0 h1 (if_neg (fun q => q.2.2 hc)) nc1 (fr.tr p1)
        rw [Int32.add_zero] at a0
        refine RT.sub (lv' := [some (.ref 0), some (.int (aS t)), some (.int (dryS (NT.J t) (trS (snOf t) (solveS (snOf t)).1))), some (.int acc), some (.int (nI d)), some (.int (nI (e + 1))), none]) (by simp [lsub]) ?_
        exact a0
      · skip
        refine r_iload_5 dX7_pairs_61 ?_
        refine r_aload_0 dX7_pairs_63 ?_
        refine r_getR (a := 15) dX7_pairs_64 fl_X7_37 rfl rfl ?_
        refine r_getI dX7_pairs_67 fl_X7_105 rfl ?_
        rw [k1]
        refine r_icmpN_ge 113 dX7_pairs_70 (by decide) (by omega) (by omega) (fun c_70 => by omega) (fun c_70 => ?_)
        refine r_iconst (v := 1) dX7_pairs_73 (by decide) ?_
        refine r_iload_4 dX7_pairs_74 ?_
        refine r_ishl dX7_pairs_76 ?_
        refine r_iconst (v := 1) dX7_pairs_77 (by decide) ?_
        refine r_iload_5 dX7_pairs_78 ?_
        refine r_ishl dX7_pairs_80 ?_
        refine r_ior dX7_pairs_81 ?_
        refine r_istore_6 dX7_pairs_82 ?_
        refine r_iload_1 dX7_pairs_84 ?_
        refine r_iload_6 dX7_pairs_85 ?_
        refine r_iand dX7_pairs_87 ?_
        refine r_if_ne 107 dX7_pairs_88 (by decide) (fun c_88 => by exact absurd ((and_two (by omega) (by omega)).mpr ha) c_88) (fun c_88 => ?_)
        refine r_aload_0 dX7_pairs_91 ?_
        refine r_iload_6 dX7_pairs_92 ?_
        refine r_cVQ1 mX7_dryIfClosed dX7_pairs_94 ml_X7_262 mo_X7_dryIfClosed rfl (k_dryIf ok nc _) (by decide) (fun h1 p1 => ?_)
        have nc1 : NetC h1 15 t := nc.fr p1 np
        refine r_iload_2 dX7_pairs_97 ?_
        refine r_iconst (v := (-1)) dX7_pairs_98 (by decide) ?_
        refine r_ixor dX7_pairs_99 ?_
        refine r_iand dX7_pairs_100 ?_
        refine r_if_eq 107 dX7_pairs_101 (by decide) (fun c_101 => by exact absurd c_101 hc) (fun c_101 => ?_)
        refine r_iinc_3 (v := 1) dX7_pairs_104 (by decide) ?_
        refine r_iincN_5 dX7_pairs_107 ?_
        refine r_goto 61 dX7_pairs_110 (by decide) ?_
        refine RT.sub (lv' := [some (.ref 0), some (.int (aS t)), some (.int (dryS (NT.J t) (trS (snOf t) (solveS (snOf t)).1))), some (.int (acc + 1)), some (.int (nI d)), some (.int (nI (e + 1))), none]) (by simp [lsub]) ?_
        exact go 1 h1 (if_pos ⟨ha.1, ha.2, hc⟩) nc1 (fr.tr p1)
    · skip
      refine r_iload_5 dX7_pairs_61 ?_
      refine r_aload_0 dX7_pairs_63 ?_
      refine r_getR (a := 15) dX7_pairs_64 fl_X7_37 rfl rfl ?_
      refine r_getI dX7_pairs_67 fl_X7_105 rfl ?_
      rw [k1]
      refine r_icmpN_ge 113 dX7_pairs_70 (by decide) (by omega) (by omega) (fun c_70 => by omega) (fun c_70 => ?_)
      refine r_iconst (v := 1) dX7_pairs_73 (by decide) ?_
      refine r_iload_4 dX7_pairs_74 ?_
      refine r_ishl dX7_pairs_76 ?_
      refine r_iconst (v := 1) dX7_pairs_77 (by decide) ?_
      refine r_iload_5 dX7_pairs_78 ?_
      refine r_ishl dX7_pairs_80 ?_
      refine r_ior dX7_pairs_81 ?_
      refine r_istore_6 dX7_pairs_82 ?_
      refine r_iload_1 dX7_pairs_84 ?_
      refine r_iload_6 dX7_pairs_85 ?_
      refine r_iand dX7_pairs_87 ?_
      refine r_if_ne 107 dX7_pairs_88 (by decide) (fun c_88 => ?_) (fun c_88 => by exact absurd ((and_two (by omega) (by omega)).mp c_88) ha)
      refine r_iincN_5 dX7_pairs_107 ?_
      refine r_goto 61 dX7_pairs_110 (by decide) ?_
      have a0 := go 0 h (if_neg (fun q => ha ⟨q.1, q.2.1⟩)) nc fr
      rw [Int32.add_zero] at a0
      refine RT.sub (lv' := [some (.ref 0), some (.int (aS t)), some (.int (dryS (NT.J t) (trS (snOf t) (solveS (snOf t)).1))), some (.int acc), some (.int (nI d)), some (.int (nI (e + 1))), none]) (by simp [lsub]) ?_
      exact a0
set_option maxRecDepth 100000 in
set_option maxHeartbeats 4000000 in
theorem pair_out {t : NT} (ok : okT t) (h0 : PH) : ∀ (m d : Nat) (acc : Int32) (h : PH), d + m = NT.E t → NetC h 15 t → Fr pap h0 h → RT mX7_pairs 8 43 [some (.ref 0), some (.int (aS t)), some (.int (dryS (NT.J t) (trS (snOf t) (solveS (snOf t)).1))), some (.int acc), some (.int (nI d)), none, none] [] h (fun a h' => a = some (.int (pr2 t m d acc)) ∧ Fr pap h0 h') := by
  have hE14 := ok.2.2.1
  intro m
  induction m with
  | zero =>
    intro d acc h hd nc fr
    have k1 : h.1 15 1 = nI (NT.E t) := nc.2.1
    refine r_iload_4 dX7_pairs_43 ?_
    refine r_aload_0 dX7_pairs_45 ?_
    refine r_getR (a := 15) dX7_pairs_46 fl_X7_37 rfl rfl ?_
    refine r_getI dX7_pairs_49 fl_X7_105 rfl ?_
    rw [k1]
    refine r_icmpN_ge 119 dX7_pairs_52 (by decide) (by omega) (by omega) (fun c_52 => ?_) (fun c_52 => by omega)
    refine r_iload_3 dX7_pairs_119 ?_
    refine r_iret dX7_pairs_120 rfl ?_
    exact ⟨rfl, fr⟩
  | succ m ih =>
    intro d acc h hd nc fr
    have k1 : h.1 15 1 = nI (NT.E t) := nc.2.1
    refine r_iload_4 dX7_pairs_43 ?_
    refine r_aload_0 dX7_pairs_45 ?_
    refine r_getR (a := 15) dX7_pairs_46 fl_X7_37 rfl rfl ?_
    refine r_getI dX7_pairs_49 fl_X7_105 rfl ?_
    rw [k1]
    refine r_icmpN_ge 119 dX7_pairs_52 (by decide) (by omega) (by omega) (fun c_52 => by omega) (fun c_52 => ?_)
    refine r_iload_4 dX7_pairs_55 ?_
    refine r_iconst (v := nI 1) dX7_pairs_57 (by decide) ?_
    refine r_iadd dX7_pairs_58 ?_
    rw [nI_ad9]
    refine r_istore_5 dX7_pairs_59 ?_
    refine pair_in ok h0 (d := d) (by omega) m (d + 1) acc h (by omega) nc fr (fun h' nc' fr' => ?_)
    refine r_iincN_4 dX7_pairs_113 ?_
    refine r_goto 43 dX7_pairs_116 (by decide) ?_
    exact ih (d + 1) _ h' (by omega) nc' fr'
set_option maxRecDepth 100000 in
set_option maxHeartbeats 4000000 in
theorem mpair_in {t : NT} (ok : okT t) (h0 : PH) {e : Nat} (he : e < NT.E t) {Q : Option Value → PH → Prop} : ∀ (m k : Nat) (acc : Int32) (h : PH), k + m = e → SolM h t (solveS (snOf t)) → FM slS slF h0 h → (∀ h', SolM h' t (solveS (snOf t)) → FM slS slF h0 h' → RT mX8_pairs 10 117 [some (.ref 74), none, some (.int (dryS (NT.J t) (trS (snOf t) (solveS (snOf t)).1))), some (.int (aS t)), some (.int (accI (fun k => pq t k e) m k acc)), some (.int (nI e)), none, none] [] h' Q) → RT mX8_pairs 10 44 [some (.ref 74), none, some (.int (dryS (NT.J t) (trS (snOf t) (solveS (snOf t)).1))), some (.int (aS t)), some (.int acc), some (.int (nI e)), some (.int (nI k)), none] [] h Q := by
  have hE14 := ok.2.2.1
  intro m
  induction m with
  | zero =>
    intro k acc h hk sm fr K
    refine r_iload_6 dX8_pairs_44 ?_
    refine r_iload_5 dX8_pairs_46 ?_
    refine r_icmpN_ge 117 dX8_pairs_48 (by decide) (by omega) (by omega) (fun c_48 => ?_) (fun c_48 => by omega)
    refine RT.sub (lv' := [some (.ref 74), none, some (.int (dryS (NT.J t) (trS (snOf t) (solveS (snOf t)).1))), some (.int (aS t)), some (.int acc), some (.int (nI e)), none, none]) (by simp [lsub]) ?_
    exact K h sm fr
  | succ m ih =>
    intro k acc h hk sm fr K
    have go : ∀ v h1, pq t k e = v → SolM h1 t (solveS (snOf t)) → FM slS slF h0 h1 → RT mX8_pairs 10 44 [some (.ref 74), none, some (.int (dryS (NT.J t) (trS (snOf t) (solveS (snOf t)).1))), some (.int (aS t)), some (.int (acc + v)), some (.int (nI e)), some (.int (nI (k + 1))), none] [] h1 Q := fun v h1 ev nc1 fr1 => by
      have K' : ∀ h', SolM h' t (solveS (snOf t)) → FM slS slF h0 h' → RT mX8_pairs 10 117 [some (.ref 74), none, some (.int (dryS (NT.J t) (trS (snOf t) (solveS (snOf t)).1))), some (.int (aS t)), some (.int (accI (fun k => pq t k e) m (k + 1) (acc + pq t k e))), some (.int (nI e)), none, none] [] h' Q := K
      rw [ev] at K'
      exact ih (k + 1) _ h1 (by omega) nc1 fr1 K'
    by_cases h1 : bt (aS t) e = true
    · skip
      refine r_iload_6 dX8_pairs_44 ?_
      refine r_iload_5 dX8_pairs_46 ?_
      refine r_icmpN_ge 117 dX8_pairs_48 (by decide) (by omega) (by omega) (fun c_48 => by omega) (fun c_48 => ?_)
      refine r_iload_3 dX8_pairs_51 ?_
      refine r_iload_5 dX8_pairs_52 ?_
      refine r_ishr dX8_pairs_54 ?_
      refine r_iconst (v := 1) dX8_pairs_55 (by decide) ?_
      refine r_iand dX8_pairs_56 ?_
      rw [bit_eq _ (by omega), b2i_t h1]
      refine r_if_ne 73 dX8_pairs_57 (by decide) (fun c_57 => ?_) (fun c_57 => by exact absurd c_57 (by decide))
      refine r_iconst (v := 0) dX8_pairs_73 (by decide) ?_
      refine r_istore_7 dX8_pairs_74 ?_
      refine r_iload_4 dX8_pairs_76 ?_
      refine r_iload_7 dX8_pairs_78 ?_
      refine r_if_eq 107 dX8_pairs_80 (by decide) (fun c_80 => ?_) (fun c_80 => by exact absurd rfl c_80)
      refine r_iconst (v := 0) dX8_pairs_107 (by decide) ?_
      refine r_iadd dX8_pairs_108 ?_
      refine r_istore_4 dX8_pairs_109 ?_
      refine r_iincN_6 dX8_pairs_111 ?_
      refine r_goto 44 dX8_pairs_114 (by decide) ?_
      refine RT.sub (lv' := [some (.ref 74), none, some (.int (dryS (NT.J t) (trS (snOf t) (solveS (snOf t)).1))), some (.int (aS t)), some (.int (acc + 0)), some (.int (nI e)), some (.int (nI (k + 1))), none]) (by simp [lsub]) ?_
      exact go 0 h (if_neg (fun q => absurd h1 (by rw [q.2.1]; decide))) sm fr
    · by_cases h2 : bt (aS t) k = true
      · skip
        refine r_iload_6 dX8_pairs_44 ?_
        refine r_iload_5 dX8_pairs_46 ?_
        refine r_icmpN_ge 117 dX8_pairs_48 (by decide) (by omega) (by omega) (fun c_48 => by omega) (fun c_48 => ?_)
        refine r_iload_3 dX8_pairs_51 ?_
        refine r_iload_5 dX8_pairs_52 ?_
        refine r_ishr dX8_pairs_54 ?_
        refine r_iconst (v := 1) dX8_pairs_55 (by decide) ?_
        refine r_iand dX8_pairs_56 ?_
        rw [bit_eq _ (by omega), b2i_f h1]
        refine r_if_ne 73 dX8_pairs_57 (by decide) (fun c_57 => by exact absurd rfl c_57) (fun c_57 => ?_)
        refine r_iload_3 dX8_pairs_60 ?_
        refine r_iload_6 dX8_pairs_61 ?_
        refine r_ishr dX8_pairs_63 ?_
        refine r_iconst (v := 1) dX8_pairs_64 (by decide) ?_
        refine r_iand dX8_pairs_65 ?_
        rw [bit_eq _ (by omega), b2i_t h2]
        refine r_if_ne 73 dX8_pairs_66 (by decide) (fun c_66 => ?_) (fun c_66 => by exact absurd c_66 (by decide))
        refine r_iconst (v := 0) dX8_pairs_73 (by decide) ?_
        refine r_istore_7 dX8_pairs_74 ?_
        refine r_iload_4 dX8_pairs_76 ?_
        refine r_iload_7 dX8_pairs_78 ?_
        refine r_if_eq 107 dX8_pairs_80 (by decide) (fun c_80 => ?_) (fun c_80 => by exact absurd rfl c_80)
        refine r_iconst (v := 0) dX8_pairs_107 (by decide) ?_
        refine r_iadd dX8_pairs_108 ?_
        refine r_istore_4 dX8_pairs_109 ?_
        refine r_iincN_6 dX8_pairs_111 ?_
        refine r_goto 44 dX8_pairs_114 (by decide) ?_
        refine RT.sub (lv' := [some (.ref 74), none, some (.int (dryS (NT.J t) (trS (snOf t) (solveS (snOf t)).1))), some (.int (aS t)), some (.int (acc + 0)), some (.int (nI e)), some (.int (nI (k + 1))), none]) (by simp [lsub]) ?_
        exact go 0 h (if_neg (fun q => absurd h2 (by rw [q.1]; decide))) sm fr
      · by_cases hc : dcS t (((1 : Int32) <<< (nI k &&& 31)) ||| ((1 : Int32) <<< (nI e &&& 31))) &&& ((dryS (NT.J t) (trS (snOf t) (solveS (snOf t)).1)) ^^^ -1) = 0
        · skip
          refine r_iload_6 dX8_pairs_44 ?_
          refine r_iload_5 dX8_pairs_46 ?_
          refine r_icmpN_ge 117 dX8_pairs_48 (by decide) (by omega) (by omega) (fun c_48 => by omega) (fun c_48 => ?_)
          refine r_iload_3 dX8_pairs_51 ?_
          refine r_iload_5 dX8_pairs_52 ?_
          refine r_ishr dX8_pairs_54 ?_
          refine r_iconst (v := 1) dX8_pairs_55 (by decide) ?_
          refine r_iand dX8_pairs_56 ?_
          rw [bit_eq _ (by omega), b2i_f h1]
          refine r_if_ne 73 dX8_pairs_57 (by decide) (fun c_57 => by exact absurd rfl c_57) (fun c_57 => ?_)
          refine r_iload_3 dX8_pairs_60 ?_
          refine r_iload_6 dX8_pairs_61 ?_
          refine r_ishr dX8_pairs_63 ?_
          refine r_iconst (v := 1) dX8_pairs_64 (by decide) ?_
          refine r_iand dX8_pairs_65 ?_
          rw [bit_eq _ (by omega), b2i_f h2]
          refine r_if_ne 73 dX8_pairs_66 (by decide) (fun c_66 => by exact absurd rfl c_66) (fun c_66 => ?_)
          refine r_iconst (v := 1) dX8_pairs_69 (by decide) ?_
          refine r_goto 74 dX8_pairs_70 (by decide) ?_
          refine r_istore_7 dX8_pairs_74 ?_
          refine r_iload_4 dX8_pairs_76 ?_
          refine r_iload_7 dX8_pairs_78 ?_
          refine r_if_eq 107 dX8_pairs_80 (by decide) (fun c_80 => by exact absurd c_80 (by decide)) (fun c_80 => ?_)
          refine r_aload_0 dX8_pairs_83 ?_
          refine r_iconst (v := 1) dX8_pairs_84 (by decide) ?_
          refine r_iload_5 dX8_pairs_85 ?_
          refine r_ishl dX8_pairs_87 ?_
          refine r_iconst (v := 1) dX8_pairs_88 (by decide) ?_
          refine r_iload_6 dX8_pairs_89 ?_
          refine r_ishl dX8_pairs_91 ?_
          refine r_ior dX8_pairs_92 ?_
          rw [Int32.or_comm ((1 : Int32) <<< (nI e &&& 31)) ((1 : Int32) <<< (nI k &&& 31))]
          refine r_cVQ1 mX8_dryWithoutAll dX8_pairs_93 ml_X8_446 mo_X8_dryWithoutAll rfl (q_dryWith ok sm.1 _) (by decide) (fun h3 p3 => ?_)
          refine r_iload_2 dX8_pairs_96 ?_
          refine r_iconst (v := (-1)) dX8_pairs_97 (by decide) ?_
          refine r_ixor dX8_pairs_98 ?_
          refine r_iand dX8_pairs_99 ?_
          refine r_if_eq 107 dX8_pairs_100 (by decide) (fun c_100 => ?_) (fun c_100 => by exact absurd hc c_100)
          refine r_iconst (v := 0) dX8_pairs_107 (by decide) ?_
          refine r_iadd dX8_pairs_108 ?_
          refine r_istore_4 dX8_pairs_109 ?_
          refine r_iincN_6 dX8_pairs_111 ?_
          refine r_goto 44 dX8_pairs_114 (by decide) ?_
          refine RT.sub (lv' := [some (.ref 74), none, some (.int (dryS (NT.J t) (trS (snOf t) (solveS (snOf t)).1))), some (.int (aS t)), some (.int (acc + 0)), some (.int (nI e)), some (.int (nI (k + 1))), none]) (by simp [lsub]) ?_
          exact go 0 h3 (if_neg (fun q => q.2.2 hc)) p3.1 (fr.tr p3.2)
        · skip
          refine r_iload_6 dX8_pairs_44 ?_
          refine r_iload_5 dX8_pairs_46 ?_
          refine r_icmpN_ge 117 dX8_pairs_48 (by decide) (by omega) (by omega) (fun c_48 => by omega) (fun c_48 => ?_)
          refine r_iload_3 dX8_pairs_51 ?_
          refine r_iload_5 dX8_pairs_52 ?_
          refine r_ishr dX8_pairs_54 ?_
          refine r_iconst (v := 1) dX8_pairs_55 (by decide) ?_
          refine r_iand dX8_pairs_56 ?_
          rw [bit_eq _ (by omega), b2i_f h1]
          refine r_if_ne 73 dX8_pairs_57 (by decide) (fun c_57 => by exact absurd rfl c_57) (fun c_57 => ?_)
          refine r_iload_3 dX8_pairs_60 ?_
          refine r_iload_6 dX8_pairs_61 ?_
          refine r_ishr dX8_pairs_63 ?_
          refine r_iconst (v := 1) dX8_pairs_64 (by decide) ?_
          refine r_iand dX8_pairs_65 ?_
          rw [bit_eq _ (by omega), b2i_f h2]
          refine r_if_ne 73 dX8_pairs_66 (by decide) (fun c_66 => by exact absurd rfl c_66) (fun c_66 => ?_)
          refine r_iconst (v := 1) dX8_pairs_69 (by decide) ?_
          refine r_goto 74 dX8_pairs_70 (by decide) ?_
          refine r_istore_7 dX8_pairs_74 ?_
          refine r_iload_4 dX8_pairs_76 ?_
          refine r_iload_7 dX8_pairs_78 ?_
          refine r_if_eq 107 dX8_pairs_80 (by decide) (fun c_80 => by exact absurd c_80 (by decide)) (fun c_80 => ?_)
          refine r_aload_0 dX8_pairs_83 ?_
          refine r_iconst (v := 1) dX8_pairs_84 (by decide) ?_
          refine r_iload_5 dX8_pairs_85 ?_
          refine r_ishl dX8_pairs_87 ?_
          refine r_iconst (v := 1) dX8_pairs_88 (by decide) ?_
          refine r_iload_6 dX8_pairs_89 ?_
          refine r_ishl dX8_pairs_91 ?_
          refine r_ior dX8_pairs_92 ?_
          rw [Int32.or_comm ((1 : Int32) <<< (nI e &&& 31)) ((1 : Int32) <<< (nI k &&& 31))]
          refine r_cVQ1 mX8_dryWithoutAll dX8_pairs_93 ml_X8_446 mo_X8_dryWithoutAll rfl (q_dryWith ok sm.1 _) (by decide) (fun h3 p3 => ?_)
          refine r_iload_2 dX8_pairs_96 ?_
          refine r_iconst (v := (-1)) dX8_pairs_97 (by decide) ?_
          refine r_ixor dX8_pairs_98 ?_
          refine r_iand dX8_pairs_99 ?_
          refine r_if_eq 107 dX8_pairs_100 (by decide) (fun c_100 => by exact absurd c_100 hc) (fun c_100 => ?_)
          refine r_iconst (v := 1) dX8_pairs_103 (by decide) ?_
          refine r_goto 108 dX8_pairs_104 (by decide) ?_
          refine r_iadd dX8_pairs_108 ?_
          refine r_istore_4 dX8_pairs_109 ?_
          refine r_iincN_6 dX8_pairs_111 ?_
          refine r_goto 44 dX8_pairs_114 (by decide) ?_
          refine RT.sub (lv' := [some (.ref 74), none, some (.int (dryS (NT.J t) (trS (snOf t) (solveS (snOf t)).1))), some (.int (aS t)), some (.int (acc + 1)), some (.int (nI e)), some (.int (nI (k + 1))), none]) (by simp [lsub]) ?_
          exact go 1 h3 (if_pos ⟨Bool.eq_false_iff.mpr h2, Bool.eq_false_iff.mpr h1, hc⟩) p3.1 (fr.tr p3.2)
set_option maxRecDepth 100000 in
set_option maxHeartbeats 4000000 in
theorem mpair_out {t : NT} (ok : okT t) (h0 : PH) : ∀ (m e : Nat) (acc : Int32) (h : PH), e + m = NT.E t → SolM h t (solveS (snOf t)) → FM slS slF h0 h → RT mX8_pairs 10 32 [some (.ref 74), none, some (.int (dryS (NT.J t) (trS (snOf t) (solveS (snOf t)).1))), some (.int (aS t)), some (.int acc), some (.int (nI e)), none, none] [] h (fun a h' => a = some (.int (mpr2 t m e acc)) ∧ (SolM h' t (solveS (snOf t)) ∧ FM slS slF h0 h')) := by
  have hE14 := ok.2.2.1
  intro m
  induction m with
  | zero =>
    intro e acc h hd sm fr
    refine r_iload_5 dX8_pairs_32 ?_
    refine r_aload_0 dX8_pairs_34 ?_
    refine r_getI dX8_pairs_35 fl_X8_232 rfl ?_
    rw [sm.1.2.1]
    refine r_icmpN_ge 123 dX8_pairs_38 (by decide) (by omega) (by omega) (fun c_38 => ?_) (fun c_38 => by omega)
    refine r_iload_4 dX8_pairs_123 ?_
    refine r_iret dX8_pairs_125 rfl ?_
    exact ⟨rfl, sm, fr⟩
  | succ m ih =>
    intro e acc h hd sm fr
    refine r_iload_5 dX8_pairs_32 ?_
    refine r_aload_0 dX8_pairs_34 ?_
    refine r_getI dX8_pairs_35 fl_X8_232 rfl ?_
    rw [sm.1.2.1]
    refine r_icmpN_ge 123 dX8_pairs_38 (by decide) (by omega) (by omega) (fun c_38 => by omega) (fun c_38 => ?_)
    refine r_iconst (v := nI 0) dX8_pairs_41 (by decide) ?_
    refine r_istore_6 dX8_pairs_42 ?_
    refine mpair_in ok h0 (e := e) (by omega) e 0 acc h (by omega) sm fr (fun h' sm' fr' => ?_)
    refine r_iincN_5 dX8_pairs_117 ?_
    refine r_goto 32 dX8_pairs_120 (by decide) ?_
    exact ih (e + 1) _ h' (by omega) sm' fr'
set_option maxRecDepth 100000 in
set_option maxHeartbeats 4000000 in
theorem q_vital {h : PH} {t : NT} (ok : okT t) (f6 : h.1 74 6 = nI (NT.J t)) (sm : SolM (rfH h 0) t (solveS (snOf t))) : Con mX8_vital 9 [.ref 74] h (fun a h' => a = some (.int (vtS t (NT.E t) 0 0)) ∧ (SolM h' t (solveS (snOf t)) ∧ FM slS slF (rfH h 0) h')) := by
  have hJ := ok.1
  have hJ9 := ok.2.1
  refine Con.mk (by decide) ?_
  show RT _ _ 0 [some (.ref 74), none, none, none] [] _ _
  refine r_aload_0 dX8_vital_0 ?_
  refine r_aload_0 dX8_vital_1 ?_
  refine r_getI dX8_vital_2 fl_X8_229 rfl ?_
  rw [f6]
  refine r_if_le 12 dX8_vital_5 (by decide) (fun c_5 => by exact absurd c_5 (nI_nle hJ (by omega))) (fun c_5 => ?_)
  refine r_iconst (v := 1) dX8_vital_8 (by decide) ?_
  refine r_goto 13 dX8_vital_9 (by decide) ?_
  refine r_cS1 mX8_unless dX8_vital_13 ml_X8_330 mo_X8_unless (q_unless _ _) (by decide) ?_
  rw [un1]
  refine r_cV1 mX8_isRefused dX8_vital_16 ml_X8_245 mo_X8_isRefused rfl (q_isRefused _ _) (by decide) ?_
  rw [b2i_f (by decide)]
  refine r_if_eq 24 dX8_vital_19 (by decide) (fun c_19 => ?_) (fun c_19 => by exact absurd rfl c_19)
  refine r_aload_0 dX8_vital_24 ?_
  refine r_cV0 mX8_dryBits dX8_vital_25 ml_X8_391 mo_X8_dryBits rfl (q_dry ok _ sm.1 sm.2.2.2.2.2.1) (by decide) ?_
  refine r_istore_1 dX8_vital_28 ?_
  refine r_iconst (v := 0) dX8_vital_29 (by decide) ?_
  refine r_istore_2 dX8_vital_30 ?_
  refine r_iconst (v := nI 0) dX8_vital_31 (by decide) ?_
  refine r_istore_3 dX8_vital_32 ?_
  exact mvit ok _ (NT.E t) 0 0 _ (by omega) sm FM.rf
set_option maxRecDepth 100000 in
set_option maxHeartbeats 4000000 in
theorem q_vital0 {h : PH} (f6 : h.1 74 6 = 0) : ConF mX8_vital 9 [.ref 74] h (some (.int (-1))) (rfH h 1) := by
  refine Con.mk (by decide) ?_
  show RT _ _ 0 [some (.ref 74), none, none, none] [] _ _
  refine r_aload_0 dX8_vital_0 ?_
  refine r_aload_0 dX8_vital_1 ?_
  refine r_getI dX8_vital_2 fl_X8_229 rfl ?_
  rw [f6]
  refine r_if_le 12 dX8_vital_5 (by decide) (fun c_5 => ?_) (fun c_5 => by exact absurd (by decide) c_5)
  refine r_iconst (v := 0) dX8_vital_12 (by decide) ?_
  refine r_cS1 mX8_unless dX8_vital_13 ml_X8_330 mo_X8_unless (q_unless _ _) (by decide) ?_
  rw [un0]
  refine r_cV1 mX8_isRefused dX8_vital_16 ml_X8_245 mo_X8_isRefused rfl (q_isRefused _ _) (by decide) ?_
  rw [b2i_t (by decide)]
  refine r_if_eq 24 dX8_vital_19 (by decide) (fun c_19 => by exact absurd c_19 (by decide)) (fun c_19 => ?_)
  refine r_iconst (v := (-1)) dX8_vital_22 (by decide) ?_
  refine r_iret dX8_vital_23 rfl ?_
  exact ⟨rfl, rfl⟩

set_option maxRecDepth 100000 in
set_option maxHeartbeats 4000000 in
theorem o_pairs {h : PH} (i : INV h) : Same2 mX7_pairs 8 [.ref 0] mX8_pairs 10 [.ref 74] h := by
  have i0 := i
  obtain ⟨n0, bs, tr, fl, wp, t, nm, ac, ms, i1, i2, i3, i4, i5, i6⟩ := i
  have hb := i3.e
  have f6 : ∀ {h1 : PH} {y : Int32}, PC h y h1 → h1.1 74 6 = nI (NT.J t) := fun p => by rw [(p.kM 74 (by omega)).1]; exact i6.1
  have pr : ∀ y, PC h y (clH h y) := fun y => Fr.rf
  by_cases hJ : 0 < NT.J t
  · obtain ⟨tx, nok, mok, sc, nac, acc, mec⟩ := (i3.k (clH_kC (x := 0))).2.2.2 hJ
    have ok := tx.1
    have np : ∀ y, y < 41 → ¬ pap y := fun y hy q => by have := q.1; omega
    refine ⟨.int (pr2 t (NT.E t) 0 0), PC h 0, fun h1 h2 => SolM h2 t (solveS (snOf t)) ∧ FM slS slF (rfH h1 0) h2, ?_, fun h1 p => ?_, fun h1 h2 p q => inv_paper i1 i2 i3 i4 i5 (by decide) p q.2 (MX.fm ((i6.k p.kM).rf 0) q.1 q.2 hJ)⟩
    · refine Con.mk (by decide) ?_
      show RT _ _ 0 [some (.ref 0), none, none, none, none, none, none] [] _ _
      refine r_aload_0 dX7_pairs_0 ?_
      refine r_cV0 mX7_hasText dX7_pairs_1 ml_X7_101 mo_X7_hasText rfl (k_hasText hb.1 i3.1) (by decide) ?_
      rw [b2i_t hJ]
      refine r_if_ne 13 dX7_pairs_4 (by decide) (fun c_4 => ?_) (fun c_4 => by exact absurd c_4 (by decide))
      refine r_aload_0 dX7_pairs_13 ?_
      refine r_cW0 mX7_allow dX7_pairs_14 ml_X7_79 mo_X7_allow rfl (k_allow h) (by decide) ?_
      refine r_aload_0 dX7_pairs_17 ?_
      refine r_getR (a := 15) dX7_pairs_18 fl_X7_37 rfl rfl ?_
      refine r_getI dX7_pairs_21 fl_X7_154 rfl ?_
      rw [show (clH h 0).1 15 3 = NT.cl t from sc.1.2.2.2.1]
      refine r_aload_0 dX7_pairs_24 ?_
      refine r_cVQ0 mX7_vitalEdges dX7_pairs_25 ml_X7_259 mo_X7_vitalEdges rfl (k_vital ok sc) (by decide) (fun h1 p1 => ?_)
      have nc1 : NetC h1 15 t := sc.1.fr p1 (fun j hj => np _ (by omega))
      have tc1 := sc.2.2.2.2.2.1.fr p1 (fun j hj => np _ (by omega))
      refine r_ior dX7_pairs_28 ?_
      show RT _ _ _ _ (.int (aS t) :: _) _ _
      refine r_istore_1 dX7_pairs_29 ?_
      refine r_aload_0 dX7_pairs_30 ?_
      refine r_getR (a := 14) dX7_pairs_31 fl_X7_29 rfl rfl ?_
      refine r_cV0 mX6_dryJoints dX7_pairs_34 ml_X7_129 mo_X6_dryJoints rfl (k_dry isW14 ok _ nc1 tc1) (by decide) ?_
      refine r_istore_2 dX7_pairs_37 ?_
      refine r_iconst (v := 0) dX7_pairs_38 (by decide) ?_
      refine r_istore_3 dX7_pairs_39 ?_
      refine r_iconst (v := nI 0) dX7_pairs_40 (by decide) ?_
      refine r_istore_4 dX7_pairs_41 ?_
      refine RT.sub (lv' := [some (.ref 0), some (.int (aS t)), some (.int (dryS (NT.J t) (trS (snOf t) (solveS (snOf t)).1))), some (.int 0), some (.int (nI 0)), none, none]) (by simp [lsub]) ?_
      exact pair_out ok _ (NT.E t) 0 0 h1 (by omega) nc1 p1
    · obtain ⟨-, -, m44, m46, -, mm⟩ := (i6.k p.kM).rf 0
      obtain ⟨rwm, sm, nam, acm, mem⟩ := mm hJ
      refine Con.mk (by decide) ?_
      show RT _ _ 0 [some (.ref 74), none, none, none, none, none, none, none] [] _ _
      refine r_aload_0 dX8_pairs_0 ?_
      refine r_cVQ0 mX8_vital dX8_pairs_1 ml_X8_443 mo_X8_vital rfl (q_vital ok (f6 p) sm) (by decide) (fun h3 p3 => ?_)
      obtain ⟨s3, f3⟩ := p3
      have e1 : h3.1 74 1 = 0 := (f3.1 1 (by unfold slF; omega)).trans pI_eq
      refine r_istore_1 dX8_pairs_4 ?_
      refine r_aload_0 dX8_pairs_5 ?_
      refine r_getI dX8_pairs_6 fl_X8_99 rfl ?_
      rw [e1]
      refine r_if_eq 14 dX8_pairs_9 (by decide) (fun c_9 => ?_) (fun c_9 => by exact absurd rfl c_9)
      refine r_aload_0 dX8_pairs_14 ?_
      refine r_cV0 mX8_dryBits dX8_pairs_15 ml_X8_391 mo_X8_dryBits rfl (q_dry ok _ s3.1 s3.2.2.2.2.2.1) (by decide) ?_
      refine r_istore_2 dX8_pairs_18 ?_
      refine r_iload_1 dX8_pairs_19 ?_
      refine r_aload_0 dX8_pairs_20 ?_
      refine r_getI dX8_pairs_21 fl_X8_235 rfl ?_
      rw [s3.1.2.2.2.1]
      refine r_ior dX8_pairs_24 ?_
      rw [Int32.or_comm]
      show RT _ _ _ _ (.int (aS t) :: _) _ _
      refine r_istore_3 dX8_pairs_25 ?_
      refine r_iconst (v := 0) dX8_pairs_26 (by decide) ?_
      refine r_istore_4 dX8_pairs_27 ?_
      refine r_iconst (v := nI 0) dX8_pairs_29 (by decide) ?_
      refine r_istore_5 dX8_pairs_30 ?_
      refine RT.sub (lv' := [some (.ref 74), none, some (.int (dryS (NT.J t) (trS (snOf t) (solveS (snOf t)).1))), some (.int (aS t)), some (.int 0), some (.int (nI 0)), none, none]) (by simp [lsub]) ?_
      rw [← pairs_eq]
      exact mpair_out ok _ (NT.E t) 0 0 h3 (by omega) s3 f3
  · have hJ0 : NT.J t = 0 := by omega
    refine Same.to2 i0 ⟨.int (-1), 1, by decide, ?_, ?_⟩
    · refine Con.mk (by decide) ?_
      show RT _ _ 0 [some (.ref 0), none, none, none, none, none, none] [] _ _
      refine r_aload_0 dX7_pairs_0 ?_
      refine r_cV0 mX7_hasText dX7_pairs_1 ml_X7_101 mo_X7_hasText rfl (k_hasText hb.1 i3.1) (by decide) ?_
      rw [b2i_f hJ]
      refine r_if_ne 13 dX7_pairs_4 (by decide) (fun c_4 => by exact absurd rfl c_4) (fun c_4 => ?_)
      refine r_aload_0 dX7_pairs_7 ?_
      refine r_iconst (v := 1) dX7_pairs_8 (by decide) ?_
      refine r_cV1 mX7_refuse dX7_pairs_9 ml_X7_65 mo_X7_refuse rfl (k_refuse h 1) (by decide) ?_
      refine r_iret dX7_pairs_12 rfl ?_
      exact ⟨rfl, rfl⟩
    · refine Con.mk (by decide) ?_
      show RT _ _ 0 [some (.ref 74), none, none, none, none, none, none, none] [] _ _
      refine r_aload_0 dX8_pairs_0 ?_
      refine r_cV0 mX8_vital dX8_pairs_1 ml_X8_443 mo_X8_vital rfl (q_vital0 (by rw [f6 (pr 1), hJ0]; rfl)) (by decide) ?_
      refine r_istore_1 dX8_pairs_4 ?_
      refine r_aload_0 dX8_pairs_5 ?_
      refine r_getI dX8_pairs_6 fl_X8_99 rfl ?_
      rw [show (rfH (clH h 1) 1).1 74 1 = 1 from pI_eq]
      refine r_if_eq 14 dX8_pairs_9 (by decide) (fun c_9 => by exact absurd c_9 (by decide)) (fun c_9 => ?_)
      refine r_iconst (v := (-1)) dX8_pairs_12 (by decide) ?_
      refine r_iret dX8_pairs_13 rfl ?_
      exact ⟨rfl, rfl⟩

