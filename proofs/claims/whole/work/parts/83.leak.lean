/-! ===== both: leak ===== -/
theorem abS_b {u : Int64} {B : Nat} (h : -(B : Int) ≤ u.toInt ∧ u.toInt ≤ B) (hB : B < 4611686018427387904) : 0 ≤ (abS u).toInt ∧ (abS u).toInt ≤ B := by
  have e0 : (0 : Int64).toInt = 0 := by decide +kernel
  unfold abS
  split
  · next q => rw [fa_lt64, e0] at q; have := neg_b h hB; omega
  · next q => rw [fa_lt64, e0] at q; omega
theorem offT_b {t : NT} (ok : okT t) {ms : MES} (mok : ∀ j v, ms j = some v → -900000 ≤ v.toInt ∧ v.toInt ≤ 900000) : ∀ (m j : Nat) (a : Int64) (c : Nat), c + m ≤ 9 → 0 ≤ a.toInt → a.toInt ≤ 144115188076855872 * (c : Int) → 0 ≤ (offT t ms m j a).toInt ∧ (offT t ms m j a).toInt ≤ 144115188076855872 * ((c + m : Nat) : Int) := by
  intro m
  induction m with
  | zero => intro j a c hc h0 h1; exact ⟨h0, h1⟩
  | succ m ih =>
    intro j a c hc h0 h1
    have st : ∀ b : Int64, 0 ≤ b.toInt → b.toInt ≤ 144115188076855872 → 0 ≤ (offT t ms m (j + 1) (a + b)).toInt ∧ (offT t ms m (j + 1) (a + b)).toInt ≤ 144115188076855872 * ((c + (m + 1) : Nat) : Int) := fun b b0 b1 => by
      have e := fb_addL (x := a) (y := b) (by omega) (by omega)
      have := ih (j + 1) (a + b) (c + 1) (by omega) (by omega) (by rw [e]; omega)
      rw [show c + (m + 1) = c + 1 + m by omega]; exact this
    cases hs : ms j with
    | none =>
      rw [off_n hs]
      have := ih (j + 1) a (c + 1) (by omega) h0 (by omega)
      rw [show c + (m + 1) = c + 1 + m by omega]; exact this
    | some v =>
      by_cases hm : mtN t j = true
      · rw [off_m hs hm]
        have b1 := ok.ok.hds (solveS (snOf t)).1 j
        have b2 := mok j v hs
        have b3 := sub_b (x := hdN t j) (y := v.toInt64) (A := 144115188075855872) (B := 900000) b1 (by rw [toInt64_toInt]; omega) (by omega)
        have b4 := abS_b b3.2 (by omega)
        exact st _ b4.1 (by have := b4.2; omega)
      · rw [off_d hs hm]
        have e : (1000000 : Int64).toInt = 1000000 := by decide +kernel
        exact st _ (by rw [e]; omega) (by rw [e]; omega)
theorem farT_b {t : NT} (tx : TxOK t) {ms : MES} (mok : msOK t ms) (j : Nat) {n : Nat} (hn : n ≤ 60) : farT t ms j n < 9223372036854775807 := by
  have hJ9 := tx.1.2.1
  have e0 : (0 : Int64).toInt = 0 := by decide +kernel
  have := offT_b (tx.more j hn) (ms := ms) (fun k v q => (mok k v q).2.2) (NT.J t - 1) 1 0 0 (by omega) (by rw [e0]; omega) (by rw [e0]; omega)
  rw [fa_lt64, show (9223372036854775807 : Int64).toInt = 9223372036854775807 by decide +kernel]
  show (offT (moreT t j (nI n)) ms (NT.J t - 1) 1 0).toInt < _
  omega
abbrev LK : Type := Option (Nat × Nat × Int64)
def lk0 (j n : Nat) (f : Int64) (b : LK) : LK := match b with | none => some (j, n, f) | some x => if f < x.2.2 then some (j, n, f) else some x
theorem lk1_s {t : NT} {ms : MES} {j m n : Nat} {b : LK} : lk1 t ms j (m + 1) n b = lk1 t ms j m (n + 1) (lk0 j n (farT t ms j n) b) := rfl
theorem lk0_s {j n : Nat} {f : Int64} {b : LK} : (lk0 j n f b).isSome = true := by
  cases b with
  | none => rfl
  | some x => unfold lk0; dsimp only; split <;> rfl
theorem lk1_k {t : NT} {ms : MES} {j : Nat} : ∀ (m n : Nat) (b : LK), b.isSome = true → (lk1 t ms j m n b).isSome = true := by
  intro m
  induction m with
  | zero => intro n b h; exact h
  | succ m ih => intro n b h; rw [lk1_s]; exact ih _ _ lk0_s
theorem lk2_k {t : NT} {ms : MES} : ∀ (m j : Nat) (b : LK), b.isSome = true → (lk2 t ms m j b).isSome = true := by
  intro m
  induction m with
  | zero => intro n b h; exact h
  | succ m ih => intro j b h; exact ih _ _ (lk1_k _ _ _ h)
theorem lkS_s {t : NT} {ms : MES} (h : 1 < NT.J t) : lk2 t ms (NT.J t - 1) 1 none = some (lkS t ms) := by
  have e : (lk2 t ms (NT.J t - 1) 1 none).isSome = true := by
    rw [show NT.J t - 1 = (NT.J t - 2) + 1 by omega]
    show (lk2 t ms (NT.J t - 2) 2 (lk1 t ms 1 39 2 (lk0 1 1 (farT t ms 1 1) none))).isSome = true
    exact lk2_k _ _ _ (lk1_k 39 2 _ lk0_s)
  unfold lkS
  cases hc : lk2 t ms (NT.J t - 1) 1 none with
  | none => rw [hc] at e; cases e
  | some x => rfl
/-- the class's cells hold what was found so far -/
def lkR (h : PH) (b : LK) : Prop := match b with | none => h.2 72 5 = 9223372036854775807 | some x => h.1 72 3 = nI x.1 ∧ h.1 72 4 = nI x.2.1 ∧ h.2 72 5 = x.2.2
def paL : Nat → Prop := fun y => pap y ∨ y = 72
theorem lkR.fr {h h' : PH} {b : LK} (r : lkR h b) (f : Fr pap h h') : lkR h' b := by
  have g := f 72 (fun q => by have := q.2; omega)
  unfold lkR; rw [g.1, g.2]; exact r
theorem cn_none {ms : MES} (h : ∀ j, ms j = none) : cnM ms = 0 := by
  have : ms = noM := funext h
  rw [this]; decide +kernel
set_option maxRecDepth 100000 in
set_option maxHeartbeats 4000000 in
theorem k_offer {h : PH} {b : LK} (r : lkR h b) {j n : Nat} {f : Int64} (hf : f < 9223372036854775807) : Con mX1_offerLeak 1 [.ref 72, .int (nI j), .int (nI n), .long f] h (fun a h' => a = none ∧ (lkR h' (lk0 j n f b) ∧ h'.1 72 0 = h.1 72 0 ∧ Fr (fun y => y = 72) h h')) := by
  by_cases hc : f < h.2 72 5
  · have e : lk0 j n f b = some (j, n, f) := by
      cases b with
      | none => rfl
      | some x => have r' : h.2 72 5 = x.2.2 := r.2.2; rw [r'] at hc; exact if_pos hc
    rw [e]
    refine Con.mk (by decide) ?_
    show RT _ _ 0 [some (.ref 72), some (.int (nI j)), some (.int (nI n)), some (.long f), none] [] _ _
    refine r_lload_3 dX1_offerLeak_0 ?_
    refine r_aload_0 dX1_offerLeak_1 ?_
    refine r_getL dX1_offerLeak_2 fl_X1_56 rfl ?_
    refine r_lif_ge 24 dX1_offerLeak_5 dX1_offerLeak_6 (by decide) (fun c_5 => by exact absurd hc (Int64.not_lt.mpr c_5)) (fun c_5 => ?_)
    refine r_aload_0 dX1_offerLeak_9 ?_
    refine r_iload_1 dX1_offerLeak_10 ?_
    refine r_putI dX1_offerLeak_11 fl_X1_60 rfl rfl rfl ?_
    refine r_aload_0 dX1_offerLeak_14 ?_
    refine r_iload_2 dX1_offerLeak_15 ?_
    refine r_putI dX1_offerLeak_16 fl_X1_63 rfl rfl rfl ?_
    refine r_aload_0 dX1_offerLeak_19 ?_
    refine r_lload_3 dX1_offerLeak_20 ?_
    refine r_putL dX1_offerLeak_21 fl_X1_56 rfl rfl rfl ?_
    refine r_vret dX1_offerLeak_24 rfl ?_
    refine ⟨rfl, ⟨?_, ?_, ?_⟩, ?_, (((Fr.rf (S := fun y => y = 72)).pI rfl).pI rfl).pL rfl⟩
    · show (pI (pI h 72 3 (nI j)) 72 4 (nI n)).1 72 3 = _
      exact (pI_ne 72 3 (Or.inr (by decide))).trans pI_eq
    · show (pI (pI h 72 3 (nI j)) 72 4 (nI n)).1 72 4 = _
      exact pI_eq
    · exact pL_eq
    · show (pI (pI h 72 3 (nI j)) 72 4 (nI n)).1 72 0 = _
      exact (pI_ne 72 0 (Or.inr (by decide))).trans (pI_ne 72 0 (Or.inr (by decide)))
  · have e : lk0 j n f b = b := by
      cases b with
      | none => have r' : h.2 72 5 = 9223372036854775807 := r; rw [r'] at hc; exact absurd hf hc
      | some x => have r' : h.2 72 5 = x.2.2 := r.2.2; rw [r'] at hc; exact if_neg hc
    rw [e]
    refine Con.mk (by decide) ?_
    show RT _ _ 0 [some (.ref 72), some (.int (nI j)), some (.int (nI n)), some (.long f), none] [] _ _
    refine r_lload_3 dX1_offerLeak_0 ?_
    refine r_aload_0 dX1_offerLeak_1 ?_
    refine r_getL dX1_offerLeak_2 fl_X1_56 rfl ?_
    refine r_lif_ge 24 dX1_offerLeak_5 dX1_offerLeak_6 (by decide) (fun c_5 => ?_) (fun c_5 => by exact absurd (Int64.not_lt.mp hc) c_5)
    refine r_vret dX1_offerLeak_24 rfl ?_
    exact ⟨rfl, r, rfl, Fr.rf⟩

set_option maxRecDepth 100000 in
set_option maxHeartbeats 4000000 in
theorem fl_in {t : NT} (tx : TxOK t) {ms : MES} (mok : msOK t ms) (h0 : PH) (mb : ∀ j, j < 32 → bt (h0.1 72 0) j = (ms j).isSome) (mv : ∀ j v, ms j = some v → h0.1 73 j = v) {j : Nat} (hj : j < NT.J t) {Q : Option Value → PH → Prop} : ∀ (m n : Nat) (b : LK) (h : PH), n + m = 41 → NetC h 15 t → lkR h b → h.1 72 0 = h0.1 72 0 → Fr paL h0 h → (∀ h', NetC h' 15 t → lkR h' (lk1 t ms j m n b) → h'.1 72 0 = h0.1 72 0 → Fr paL h0 h' → RT mX7_findLeak 7 63 [some (.ref 0), some (.int (nI j)), none] [] h' Q) → RT mX7_findLeak 7 25 [some (.ref 0), some (.int (nI j)), some (.int (nI n))] [] h Q := by
  have np : ∀ j, j < 10 → ¬ pap (15 + j) := fun j hj q => by have := q.1; omega
  have hJ9 := tx.1.2.1
  intro m
  induction m with
  | zero =>
    intro n b h hn nc r e0 fr K
    refine r_iload_2 dX7_findLeak_25 ?_
    refine r_bipush (v := nI 40) dX7_findLeak_26 (by decide) ?_
    refine r_icmpN_gt 63 dX7_findLeak_28 (by decide) (by omega) (by omega) (fun c_28 => ?_) (fun c_28 => by omega)
    refine RT.sub (lv' := [some (.ref 0), some (.int (nI j)), none]) (by simp [lsub]) ?_
    exact K h nc r e0 fr
  | succ m ih =>
    intro n b h hn nc r e0 fr K
    rw [lk1_s] at K
    refine r_iload_2 dX7_findLeak_25 ?_
    refine r_bipush (v := nI 40) dX7_findLeak_26 (by decide) ?_
    refine r_icmpN_gt 63 dX7_findLeak_28 (by decide) (by omega) (by omega) (fun c_28 => by omega) (fun c_28 => ?_)
    refine r_aload_0 dX7_findLeak_31 ?_
    refine r_iload_1 dX7_findLeak_32 ?_
    refine r_iload_2 dX7_findLeak_33 ?_
    refine r_cWQ2 mX7_solveWithMore dX7_findLeak_34 ml_X7_265 mo_X7_solveWithMore rfl (k_more tx nc hj (n := n) (by omega)) (by decide) (fun h1 p1 => ?_)
    obtain ⟨s1, f1⟩ := p1
    have nc1 : NetC h1 15 t := nc.fr f1 np
    refine r_aload_0 dX7_findLeak_37 ?_
    refine r_getR (a := 72) dX7_findLeak_38 fl_X7_54 rfl rfl ?_
    refine r_iload_1 dX7_findLeak_41 ?_
    refine r_iload_2 dX7_findLeak_42 ?_
    refine r_aload_0 dX7_findLeak_43 ?_
    refine r_getR (a := 72) dX7_findLeak_44 fl_X7_54 rfl rfl ?_
    refine r_aload_0 dX7_findLeak_47 ?_
    refine r_getR (a := 41) dX7_findLeak_48 fl_X7_38 rfl rfl ?_
    refine r_cV1 mX1_farFrom dX7_findLeak_51 ml_X7_280 mo_X1_farFrom rfl (k_far (tx.more j (by omega)) (fun k v q => (mok k v q).2.1) s1 (fun k hk => by rw [(f1 72 (fun q => by have := q.2; omega)).1, e0]; exact mb k hk) (fun k v q => by rw [(f1 73 (fun q => by have := q.2; omega)).1, (fr 73 (fun q => by unfold paL pap at q; omega)).1]; exact mv k v q)) (by decide) ?_
    refine r_cWQ3 mX1_offerLeak dX7_findLeak_54 ml_X7_337 mo_X1_offerLeak rfl (k_offer (r.fr f1) (farT_b tx mok j (n := n) (by omega))) (by decide) (fun h2 p2 => ?_)
    obtain ⟨r2, e2, f2⟩ := p2
    refine r_iincN_2 dX7_findLeak_57 ?_
    refine r_goto 25 dX7_findLeak_60 (by decide) ?_
    exact ih (n + 1) _ h2 (by omega) (nc1.fr f2 (fun j hj q => by omega)) r2 (e2.trans ((by rw [(f1 72 (fun q => by have := q.2; omega)).1] : h1.1 72 0 = h.1 72 0).trans e0)) ((fr.tr (f1.wk (fun _ q => Or.inl q))).tr (f2.wk (fun _ q => Or.inr q))) K
set_option maxRecDepth 100000 in
set_option maxHeartbeats 4000000 in
theorem fl_out {t : NT} (tx : TxOK t) {ms : MES} (mok : msOK t ms) (h0 : PH) (mb : ∀ j, j < 32 → bt (h0.1 72 0) j = (ms j).isSome) (mv : ∀ j v, ms j = some v → h0.1 73 j = v) {Q : Option Value → PH → Prop} : ∀ (m j : Nat) (b : LK) (h : PH), j + m = NT.J t → NetC h 15 t → lkR h b → h.1 72 0 = h0.1 72 0 → Fr paL h0 h → (∀ h', lkR h' (lk2 t ms m j b) → h'.1 72 0 = h0.1 72 0 → Fr paL h0 h' → RT mX7_findLeak 7 69 [some (.ref 0), none, none] [] h' Q) → RT mX7_findLeak 7 12 [some (.ref 0), some (.int (nI j)), none] [] h Q := by
  have hJ9 := tx.1.2.1
  intro m
  induction m with
  | zero =>
    intro j b h hn nc r e0 fr K
    have k0 : h.1 15 0 = nI (NT.J t) := nc.1
    refine r_iload_1 dX7_findLeak_12 ?_
    refine r_aload_0 dX7_findLeak_13 ?_
    refine r_getR (a := 15) dX7_findLeak_14 fl_X7_37 rfl rfl ?_
    refine r_getI dX7_findLeak_17 fl_X7_98 rfl ?_
    rw [k0]
    refine r_icmpN_ge 69 dX7_findLeak_20 (by decide) (by omega) (by omega) (fun c_20 => ?_) (fun c_20 => by omega)
    refine RT.sub (lv' := [some (.ref 0), none, none]) (by simp [lsub]) ?_
    exact K h r e0 fr
  | succ m ih =>
    intro j b h hn nc r e0 fr K
    have k0 : h.1 15 0 = nI (NT.J t) := nc.1
    refine r_iload_1 dX7_findLeak_12 ?_
    refine r_aload_0 dX7_findLeak_13 ?_
    refine r_getR (a := 15) dX7_findLeak_14 fl_X7_37 rfl rfl ?_
    refine r_getI dX7_findLeak_17 fl_X7_98 rfl ?_
    rw [k0]
    refine r_icmpN_ge 69 dX7_findLeak_20 (by decide) (by omega) (by omega) (fun c_20 => by omega) (fun c_20 => ?_)
    refine r_iconst (v := nI 1) dX7_findLeak_23 (by decide) ?_
    refine r_istore_2 dX7_findLeak_24 ?_
    refine fl_in tx mok h0 mb mv (j := j) (by omega) 40 1 b h (by omega) nc r e0 fr (fun h' nc' r' e' fr' => ?_)
    refine r_iincN_1 dX7_findLeak_63 ?_
    refine r_goto 12 dX7_findLeak_66 (by decide) ?_
    exact ih (j + 1) _ h' (by omega) nc' r' e' fr' K
set_option maxRecDepth 100000 in
set_option maxHeartbeats 4000000 in
theorem k_findLk {t : NT} (tx : TxOK t) {ms : MES} (mok : msOK t ms) {h : PH} (nc : NetC h 15 t) (mec : MeaC h t ms) : Con mX7_findLeak 7 [.ref 0] h (fun a h' => a = none ∧ ((h'.1 72 3 = nI (lkS t ms).1 ∧ h'.1 72 4 = nI (lkS t ms).2.1 ∧ h'.2 72 5 = (lkS t ms).2.2) ∧ h'.1 72 0 = h.1 72 0 ∧ h'.1 72 2 = 1 ∧ Fr paL h h')) := by
  have hJ := tx.2.1
  have nn : ∀ j, j < 10 → ¬ (15 + j = 72) := fun j hj => by omega
  refine Con.mk (by decide) ?_
  show RT _ _ 0 [some (.ref 0), none, none] [] _ _
  refine r_aload_0 dX7_findLeak_0 ?_
  refine r_getR (a := 72) dX7_findLeak_1 fl_X7_54 rfl rfl ?_
  refine r_ldc2 dX7_findLeak_4 ks_X7_335 ?_
  refine r_putL dX7_findLeak_7 fl_X7_296 rfl rfl rfl ?_
  refine r_iconst (v := nI 1) dX7_findLeak_10 (by decide) ?_
  refine r_istore_1 dX7_findLeak_11 ?_
  refine fl_out tx mok h mec.1 mec.2.1 (NT.J t - 1) 1 none (pL h 72 5 9223372036854775807) (by omega) (nc.fr (S := fun y => y = 72) (Fr.rf.pL rfl) nn) pL_eq rfl (Fr.rf.pL (Or.inr rfl)) (fun h' r e fr => ?_)
  rw [lkS_s hJ] at r
  refine r_aload_0 dX7_findLeak_69 ?_
  refine r_getR (a := 72) dX7_findLeak_70 fl_X7_54 rfl rfl ?_
  refine r_iconst (v := 1) dX7_findLeak_73 (by decide) ?_
  refine r_putZ dX7_findLeak_74 fl_X7_284 rfl rfl rfl (by first | exact Or.inl rfl | exact Or.inr rfl) ?_
  refine r_vret dX7_findLeak_77 rfl ?_
  refine ⟨rfl, ⟨?_, ?_, r.2.2⟩, ?_, pI_eq, fr.pI (Or.inr rfl)⟩
  · exact (pI_ne 72 3 (Or.inr (by decide))).trans r.1
  · exact (pI_ne 72 4 (Or.inr (by decide))).trans r.2.1
  · exact (pI_ne 72 0 (Or.inr (by decide))).trans e

def atV (b : LK) : Int32 := match b with | none => -1 | some x => nI x.1
def muV (b : LK) : Int32 := match b with | none => 0 | some x => nI x.2.1
def leV (b : LK) : Int64 := match b with | none => 0 | some x => x.2.2
set_option maxRecDepth 100000 in
set_option maxHeartbeats 4000000 in
theorem mlk_in {t : NT} (tx : TxOK t) {ms : MES} (h0 : PH) {w : Int32} {j : Nat} (hj : j < NT.J t) {Q : Option Value → PH → Prop} : ∀ (m n : Nat) (b : LK) (h : PH), n + m = 41 → (∀ x, b = some x → x.1 < 9) → RawM h t → h.1 74 46 = 100 → MeaM h ms → FM slS slG h0 h → (∀ h' b', b' = lk1 t ms j m n b → (∀ x, b' = some x → x.1 < 9) → RawM h' t → h'.1 74 46 = 100 → MeaM h' ms → FM slS slG h0 h' → RT mX8_leak 9 129 [some (.ref 74), some (.int w), none, some (.int (atV b')), some (.int (muV b')), some (.long (leV b')), none, some (.int (nI j)), none, none, none] [] h' Q) → RT mX8_leak 9 82 [some (.ref 74), some (.int w), none, some (.int (atV b)), some (.int (muV b)), some (.long (leV b)), none, some (.int (nI j)), some (.int (nI n)), none, none] [] h Q := by
  have hJ9 := tx.1.2.1
  intro m
  induction m with
  | zero =>
    intro n b h hn bd r h46 mem fr K
    refine r_iload_8 dX8_leak_82 ?_
    refine r_bipush (v := nI 40) dX8_leak_84 (by decide) ?_
    refine r_icmpN_gt 129 dX8_leak_86 (by decide) (by omega) (by omega) (fun c_86 => ?_) (fun c_86 => by omega)
    refine RT.sub (lv' := [some (.ref 74), some (.int w), none, some (.int (atV b)), some (.int (muV b)), some (.long (leV b)), none, some (.int (nI j)), none, none, none]) (by simp [lsub]) ?_
    exact K h b rfl bd r h46 mem fr
  | succ m ih =>
    intro n b h hn bd r h46 mem fr K
    have go : ∀ b', lk0 j n (farT t ms j n) b = b' → (∀ x, b' = some x → x.1 < 9) → ∀ h1, h1.1 74 46 = 100 → FM slS slG h h1 → RT mX8_leak 9 82 [some (.ref 74), some (.int w), none, some (.int (atV b')), some (.int (muV b')), some (.long (leV b')), none, some (.int (nI j)), some (.int (nI (n + 1))), none, none] [] h1 Q := fun b' e bd' h1 e1 f1 => ih (n + 1) b' h1 (by omega) bd' (r.fm f1) e1 (mem.fm f1) (fr.tr f1) (fun h' b2 q => K h' b2 (by rw [q, lk1_s, e]))
    cases b with
    | none =>
      refine r_iload_8 dX8_leak_82 ?_
      refine r_bipush (v := nI 40) dX8_leak_84 (by decide) ?_
      refine r_icmpN_gt 129 dX8_leak_86 (by decide) (by omega) (by omega) (fun c_86 => by omega) (fun c_86 => ?_)
      refine r_aload_0 dX8_leak_89 ?_
      refine r_iload_7 dX8_leak_90 ?_
      refine r_iload_8 dX8_leak_92 ?_
      refine r_cVQ2 mX8_offWith dX8_leak_94 ml_X8_476 mo_X8_offWith rfl (q_offWith tx r h46 mem hj (n := n) (by omega)) (by decide) (fun h1 p1 => ?_)
      obtain ⟨e1, f1⟩ := p1
      refine r_lstore_9 dX8_leak_97 ?_
      refine r_iload_3 dX8_leak_99 ?_
      refine r_iconst (v := (-1)) dX8_leak_100 (by decide) ?_
      refine r_icmp_eq 112 dX8_leak_101 (by decide) (fun c_101 => ?_) (fun c_101 => by exact absurd rfl c_101)
      refine r_iload_7 dX8_leak_112 ?_
      refine r_istore_3 dX8_leak_114 ?_
      refine r_iload_8 dX8_leak_115 ?_
      refine r_istore_4 dX8_leak_117 ?_
      refine r_lload_9 dX8_leak_119 ?_
      refine r_lstore_5 dX8_leak_121 ?_
      refine r_iincN_8 dX8_leak_123 ?_
      refine r_goto 82 dX8_leak_126 (by decide) ?_
      refine RT.sub (lv' := [some (.ref 74), some (.int w), none, some (.int (atV (some (j, n, farT t ms j n)))), some (.int (muV (some (j, n, farT t ms j n)))), some (.long (leV (some (j, n, farT t ms j n)))), none, some (.int (nI j)), some (.int (nI (n + 1))), none, none]) (by simp [lsub, atV, muV, leV]) ?_
      exact go (some (j, n, farT t ms j n)) rfl (fun x q => by cases q; exact (by omega : j < 9)) h1 e1 f1
    | some x =>
      by_cases hf : farT t ms j n < x.2.2
      · skip
        refine r_iload_8 dX8_leak_82 ?_
        refine r_bipush (v := nI 40) dX8_leak_84 (by decide) ?_
        refine r_icmpN_gt 129 dX8_leak_86 (by decide) (by omega) (by omega) (fun c_86 => by omega) (fun c_86 => ?_)
        refine r_aload_0 dX8_leak_89 ?_
        refine r_iload_7 dX8_leak_90 ?_
        refine r_iload_8 dX8_leak_92 ?_
        refine r_cVQ2 mX8_offWith dX8_leak_94 ml_X8_476 mo_X8_offWith rfl (q_offWith tx r h46 mem hj (n := n) (by omega)) (by decide) (fun h1 p1 => ?_)
        obtain ⟨e1, f1⟩ := p1
        refine r_lstore_9 dX8_leak_97 ?_
        refine r_iload_3 dX8_leak_99 ?_
        refine r_iconst (v := (-1)) dX8_leak_100 (by decide) ?_
        refine r_icmp_eq 112 dX8_leak_101 (by decide) (fun c_101 => by exact absurd c_101 (nI_ne_m1 (by have := bd x rfl; omega))) (fun c_101 => ?_)
        refine r_lload_9 dX8_leak_104 ?_
        refine r_lload_5 dX8_leak_106 ?_
        refine r_lif_ge 123 dX8_leak_108 dX8_leak_109 (by decide) (fun c_108 => by exact absurd hf (Int64.not_lt.mpr c_108)) (fun c_108 => ?_)
        refine r_iload_7 dX8_leak_112 ?_
        refine r_istore_3 dX8_leak_114 ?_
        refine r_iload_8 dX8_leak_115 ?_
        refine r_istore_4 dX8_leak_117 ?_
        refine r_lload_9 dX8_leak_119 ?_
        refine r_lstore_5 dX8_leak_121 ?_
        refine r_iincN_8 dX8_leak_123 ?_
        refine r_goto 82 dX8_leak_126 (by decide) ?_
        refine RT.sub (lv' := [some (.ref 74), some (.int w), none, some (.int (atV (some (j, n, farT t ms j n)))), some (.int (muV (some (j, n, farT t ms j n)))), some (.long (leV (some (j, n, farT t ms j n)))), none, some (.int (nI j)), some (.int (nI (n + 1))), none, none]) (by simp [lsub, atV, muV, leV]) ?_
        exact go (some (j, n, farT t ms j n)) (if_pos hf) (fun x q => by cases q; exact (by omega : j < 9)) h1 e1 f1
      · skip
        refine r_iload_8 dX8_leak_82 ?_
        refine r_bipush (v := nI 40) dX8_leak_84 (by decide) ?_
        refine r_icmpN_gt 129 dX8_leak_86 (by decide) (by omega) (by omega) (fun c_86 => by omega) (fun c_86 => ?_)
        refine r_aload_0 dX8_leak_89 ?_
        refine r_iload_7 dX8_leak_90 ?_
        refine r_iload_8 dX8_leak_92 ?_
        refine r_cVQ2 mX8_offWith dX8_leak_94 ml_X8_476 mo_X8_offWith rfl (q_offWith tx r h46 mem hj (n := n) (by omega)) (by decide) (fun h1 p1 => ?_)
        obtain ⟨e1, f1⟩ := p1
        refine r_lstore_9 dX8_leak_97 ?_
        refine r_iload_3 dX8_leak_99 ?_
        refine r_iconst (v := (-1)) dX8_leak_100 (by decide) ?_
        refine r_icmp_eq 112 dX8_leak_101 (by decide) (fun c_101 => by exact absurd c_101 (nI_ne_m1 (by have := bd x rfl; omega))) (fun c_101 => ?_)
        refine r_lload_9 dX8_leak_104 ?_
        refine r_lload_5 dX8_leak_106 ?_
        refine r_lif_ge 123 dX8_leak_108 dX8_leak_109 (by decide) (fun c_108 => ?_) (fun c_108 => by exact absurd (Int64.not_lt.mp hf) c_108)
        refine r_iincN_8 dX8_leak_123 ?_
        refine r_goto 82 dX8_leak_126 (by decide) ?_
        refine RT.sub (lv' := [some (.ref 74), some (.int w), none, some (.int (atV (some x))), some (.int (muV (some x))), some (.long (leV (some x))), none, some (.int (nI j)), some (.int (nI (n + 1))), none, none]) (by simp [lsub, atV, muV, leV]) ?_
        exact go (some x) (if_neg hf) bd h1 e1 f1
set_option maxRecDepth 100000 in
set_option maxHeartbeats 4000000 in
theorem mlk_out {t : NT} (tx : TxOK t) {ms : MES} (h0 : PH) {w : Int32} {Q : Option Value → PH → Prop} : ∀ (m j : Nat) (b : LK) (h : PH), j + m = NT.J t → (∀ x, b = some x → x.1 < 9) → RawM h t → h.1 74 46 = 100 → MeaM h ms → FM slS slG h0 h → (∀ h', RawM h' t → h'.1 74 46 = 100 → FM slS slG h0 h' → RT mX8_leak 9 135 [some (.ref 74), some (.int w), none, some (.int (atV (lk2 t ms m j b))), some (.int (muV (lk2 t ms m j b))), some (.long (leV (lk2 t ms m j b))), none, none, none, none, none] [] h' Q) → RT mX8_leak 9 70 [some (.ref 74), some (.int w), none, some (.int (atV b)), some (.int (muV b)), some (.long (leV b)), none, some (.int (nI j)), none, none, none] [] h Q := by
  have hJ9 := tx.1.2.1
  intro m
  induction m with
  | zero =>
    intro j b h hn bd r h46 mem fr K
    have k0 : h.1 74 6 = nI (NT.J t) := r.1
    refine r_iload_7 dX8_leak_70 ?_
    refine r_aload_0 dX8_leak_72 ?_
    refine r_getI dX8_leak_73 fl_X8_229 rfl ?_
    rw [k0]
    refine r_icmpN_ge 135 dX8_leak_76 (by decide) (by omega) (by omega) (fun c_76 => ?_) (fun c_76 => by omega)
    refine RT.sub (lv' := [some (.ref 74), some (.int w), none, some (.int (atV b)), some (.int (muV b)), some (.long (leV b)), none, none, none, none, none]) (by simp [lsub]) ?_
    exact K h r h46 fr
  | succ m ih =>
    intro j b h hn bd r h46 mem fr K
    have k0 : h.1 74 6 = nI (NT.J t) := r.1
    refine r_iload_7 dX8_leak_70 ?_
    refine r_aload_0 dX8_leak_72 ?_
    refine r_getI dX8_leak_73 fl_X8_229 rfl ?_
    rw [k0]
    refine r_icmpN_ge 135 dX8_leak_76 (by decide) (by omega) (by omega) (fun c_76 => by omega) (fun c_76 => ?_)
    refine r_iconst (v := nI 1) dX8_leak_79 (by decide) ?_
    refine r_istore_8 dX8_leak_80 ?_
    refine mlk_in tx h0 (j := j) (by omega) 40 1 b h (by omega) bd r h46 mem fr (fun h' b' eb bd' r' e' m' fr' => ?_)
    refine r_iincN_7 dX8_leak_129 ?_
    refine r_goto 70 dX8_leak_132 (by decide) ?_
    exact ih (j + 1) b' h' (by omega) bd' r' e' m' fr' (by rw [eb]; exact K)
