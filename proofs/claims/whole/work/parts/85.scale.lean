/-! ===== both: draws by hundredths ===== -/
def scD (t : NT) (n : Nat) (j : Nat) : Int32 := NT.dr t j * nI n / 100
def scT (t : NT) (n : Nat) : NT := setDr t (scD t n)
theorem sc_v : ∀ d n : Nat, d < 61 → n < 301 → (nI d * nI n / 100) = nI (d * n / 100) := by
  intro d n hd hn
  have hm : d * n ≤ 60 * 300 := Nat.mul_le_mul (by omega) (by omega)
  have e : nI d * nI n = nI (d * n) := (Int32.ofNat_mul d n).symm
  rw [e]
  generalize d * n = k at hm
  have e100 : (100 : Int32).toInt = 100 := by decide +kernel
  rw [fa_eq, Int32.toInt_div, nI_toInt (by omega), nI_toInt (by omega), e100]
  have e1 : Int.tdiv (k : Int) 100 = ((k / 100 : Nat) : Int) := by
    rw [Int.tdiv_eq_ediv_of_nonneg (by omega)]; omega
  rw [e1]
  exact Int.bmod_eq_of_le (by omega) (by omega)
theorem TxOK.sc {t : NT} (tx : TxOK t) {n : Nat} (hn : n ≤ 300) : okT (scT t n) := by
  refine tx.1.setDr (fun k hk => ?_)
  have b1 := (tx.1.2.2.2.2.1 k hk).1
  have b2 := tx.2.2.2.1 k hk
  unfold scD
  obtain ⟨d, hd, e⟩ := ofB b1
  rw [e, nI_toInt hd] at b2
  have hm : d * n ≤ 60 * 300 := Nat.mul_le_mul (by omega) (by omega)
  rw [e, sc_v d n (by omega) (by omega), nI_toInt (by omega)]; omega
theorem NetC.drs {h h' : PH} {o : Nat} {t : NT} {f g : Nat → Int32} (c : NetC h o (setDr t f)) (fr : Fr (fun y => y = o + 2) h h') (hv : ∀ j, j < NT.J t → h'.1 (o + 2) j = g j) : NetC h' o (setDr t g) := by
  have z : h'.1 o = h.1 o := (fr o (by omega)).1
  have k : ∀ i, i ≠ 2 → h'.1 (o + i) = h.1 (o + i) := fun i hi => (fr _ (by omega)).1
  obtain ⟨c1, c2, c3, c4, c5, c6⟩ := c
  refine ⟨by rw [z]; exact c1, by rw [z]; exact c2, by rw [z]; exact c3, by rw [z]; exact c4, fun j hj => ⟨hv j hj, by rw [k 3 (by decide)]; exact (c5 j hj).2⟩, fun e he => ?_⟩
  rw [k 4 (by decide), k 5 (by decide), k 6 (by decide), k 7 (by decide), k 8 (by decide), k 9 (by decide)]; exact c6 e he
def ot1 (a x y : Int32) : Int32 := if a = 0 then (if x = y then 0 else 1) else 1
def otS (f g : Nat → Int32) : Nat → Nat → Int32 → Int32
  | 0, _, a => a
  | m + 1, j, a => otS f g m (j + 1) (ot1 a (f j) (g j))
theorem ot1_b {a x y : Int32} : ot1 a x y = 0 ∨ ot1 a x y = 1 := by
  unfold ot1
  split
  · split
    · exact Or.inl rfl
    · exact Or.inr rfl
  · exact Or.inr rfl
theorem otS_b {f g : Nat → Int32} : ∀ (m j : Nat) (a : Int32), (a = 0 ∨ a = 1) → (otS f g m j a = 0 ∨ otS f g m j a = 1) := by
  intro m
  induction m with
  | zero => intro j a h; exact h
  | succ m ih => intro j a h; exact ih _ _ ot1_b
theorem otS_0 {f g : Nat → Int32} : ∀ (m j : Nat) (a : Int32), otS f g m j a = 0 → a = 0 ∧ ∀ k, j ≤ k → k < j + m → f k = g k := by
  intro m
  induction m with
  | zero => intro j a h; exact ⟨h, fun k h1 h2 => by omega⟩
  | succ m ih =>
    intro j a h
    obtain ⟨e, r⟩ := ih (j + 1) _ h
    unfold ot1 at e
    split at e
    · next q =>
      split at e
      · next q2 =>
        refine ⟨q, fun k h1 h2 => ?_⟩
        by_cases z : k = j
        · rw [z]; exact q2
        · exact r k (by omega) (by omega)
      · exact absurd e (by decide)
    · exact absurd e (by decide)
set_option maxRecDepth 100000 in
set_option maxHeartbeats 4000000 in
theorem scl_loop {t : NT} (ok : okT t) {n : Nat} {f : Nat → Int32} (h0 : PH) (nc : NetC h0 15 t) (nc2 : NetC h0 42 (setDr t f)) : ∀ (m j : Nat) (a : Int32) (h : PH), j + m = NT.J t → (a = 0 ∨ a = 1) → (∀ k, k < j → h.1 44 k = scD t n k) → (∀ k, j ≤ k → h.1 44 k = h0.1 44 k) → Fr (fun y => y = 44) h0 h → RT mX2_scaleDraws 1 5 [some (.ref 42), some (.ref 15), some (.int (nI n)), some (.int a), some (.int (nI j)), none] [] h (fun x h' => x = some (.int (otS (scD t n) f m j a)) ∧ (NetC h' 42 (scT t n) ∧ Fr (fun y => y = 44) h0 h')) := by
  have hJ9 := ok.2.1
  intro m
  induction m with
  | zero =>
    intro j a h hj ha h1 h2 fr
    have k0 : h.1 42 0 = nI (NT.J t) := by rw [(fr 42 (by decide)).1]; exact nc2.1
    refine r_iload_4 dX2_scaleDraws_5 ?_
    refine r_aload_0 dX2_scaleDraws_7 ?_
    refine r_getI dX2_scaleDraws_8 fl_X2_40 rfl ?_
    rw [k0]
    refine r_icmpN_ge 65 dX2_scaleDraws_11 (by decide) (by omega) (by omega) (fun c_11 => ?_) (fun c_11 => by omega)
    refine r_iload_3 dX2_scaleDraws_65 ?_
    refine r_zret dX2_scaleDraws_66 rfl (by rcases ha with q | q <;> rw [q] <;> rfl) ?_
    exact ⟨rfl, nc2.drs fr (fun k hk => h1 k (by omega)), fr⟩
  | succ m ih =>
    intro j a h hj ha h1 h2 fr
    have k0 : h.1 42 0 = nI (NT.J t) := by rw [(fr 42 (by decide)).1]; exact nc2.1
    have k1 : h.1 17 j = NT.dr t j := by rw [(fr 17 (by decide)).1]; exact (nc.2.2.2.2.1 j (by omega)).1
    have k2 : h.1 44 j = f j := by rw [h2 j (Nat.le_refl _)]; exact (nc2.2.2.2.2.1 j (by show j < NT.J t; omega)).1
    have go : ∀ z b, ot1 a (scD t n j) (f j) = b → RT mX2_scaleDraws 1 5 [some (.ref 42), some (.ref 15), some (.int (nI n)), some (.int b), some (.int (nI (j + 1))), z] [] (pI h 44 j (scD t n j)) (fun x h' => x = some (.int (otS (scD t n) f (m + 1) j a)) ∧ (NetC h' 42 (scT t n) ∧ Fr (fun y => y = 44) h0 h')) := fun z b e => by
      show RT _ _ _ _ _ _ (fun x h' => x = some (.int (otS (scD t n) f m (j + 1) (ot1 a (scD t n j) (f j)))) ∧ (NetC h' 42 (scT t n) ∧ Fr (fun y => y = 44) h0 h'))
      rw [e]
      refine RT.sub (lv' := [some (.ref 42), some (.ref 15), some (.int (nI n)), some (.int b), some (.int (nI (j + 1))), none]) (by simp [lsub]) ?_
      refine ih (j + 1) b _ (by omega) (e ▸ ot1_b) (fun k hk => ?_) (fun k hk => ?_) (fr.pI rfl)
      · by_cases q : k = j
        · rw [q]; exact pI_eq
        · rw [pI_ne 44 k (Or.inr q)]; exact h1 k (by omega)
      · rw [pI_ne 44 k (Or.inr (by omega))]; exact h2 k (by omega)
    by_cases hz : a = 0
    · by_cases he : scD t n j = f j
      · skip
        refine r_iload_4 dX2_scaleDraws_5 ?_
        refine r_aload_0 dX2_scaleDraws_7 ?_
        refine r_getI dX2_scaleDraws_8 fl_X2_40 rfl ?_
        rw [k0]
        refine r_icmpN_ge 65 dX2_scaleDraws_11 (by decide) (by omega) (by omega) (fun c_11 => by omega) (fun c_11 => ?_)
        refine r_aload_1 dX2_scaleDraws_14 ?_
        refine r_getR (a := 17) dX2_scaleDraws_15 fl_X2_15 rfl rfl ?_
        refine r_iload_4 dX2_scaleDraws_18 ?_
        refine r_ialdN dX2_scaleDraws_20 rfl (by omega) ?_
        rw [k1]
        refine r_iload_2 dX2_scaleDraws_21 ?_
        refine r_imul dX2_scaleDraws_22 ?_
        refine r_bipush (v := 100) dX2_scaleDraws_23 (by decide) ?_
        refine r_idiv dX2_scaleDraws_25 (by decide) ?_
        show RT _ _ _ _ (.int (scD t n j) :: _) _ _
        refine r_istore_5 dX2_scaleDraws_26 ?_
        refine r_iload_3 dX2_scaleDraws_28 ?_
        refine r_if_ne 44 dX2_scaleDraws_29 (by decide) (fun c_29 => by exact absurd hz c_29) (fun c_29 => ?_)
        refine r_iload_5 dX2_scaleDraws_32 ?_
        refine r_aload_0 dX2_scaleDraws_34 ?_
        refine r_getR (a := 44) dX2_scaleDraws_35 fl_X2_15 rfl rfl ?_
        refine r_iload_4 dX2_scaleDraws_38 ?_
        refine r_ialdN dX2_scaleDraws_40 rfl (by omega) ?_
        rw [k2]
        refine r_icmp_eq 48 dX2_scaleDraws_41 (by decide) (fun c_41 => ?_) (fun c_41 => by exact absurd he c_41)
        refine r_iconst (v := 0) dX2_scaleDraws_48 (by decide) ?_
        refine r_istore_3 dX2_scaleDraws_49 ?_
        refine r_aload_0 dX2_scaleDraws_50 ?_
        refine r_getR (a := 44) dX2_scaleDraws_51 fl_X2_15 rfl rfl ?_
        refine r_iload_4 dX2_scaleDraws_54 ?_
        refine r_iload_5 dX2_scaleDraws_56 ?_
        refine r_iastN dX2_scaleDraws_58 rfl (by omega) ?_
        refine r_iincN_4 dX2_scaleDraws_59 ?_
        refine r_goto 5 dX2_scaleDraws_62 (by decide) ?_
        exact go _ _ (by unfold ot1; rw [if_pos hz, if_pos he])
      · skip
        refine r_iload_4 dX2_scaleDraws_5 ?_
        refine r_aload_0 dX2_scaleDraws_7 ?_
        refine r_getI dX2_scaleDraws_8 fl_X2_40 rfl ?_
        rw [k0]
        refine r_icmpN_ge 65 dX2_scaleDraws_11 (by decide) (by omega) (by omega) (fun c_11 => by omega) (fun c_11 => ?_)
        refine r_aload_1 dX2_scaleDraws_14 ?_
        refine r_getR (a := 17) dX2_scaleDraws_15 fl_X2_15 rfl rfl ?_
        refine r_iload_4 dX2_scaleDraws_18 ?_
        refine r_ialdN dX2_scaleDraws_20 rfl (by omega) ?_
        rw [k1]
        refine r_iload_2 dX2_scaleDraws_21 ?_
        refine r_imul dX2_scaleDraws_22 ?_
        refine r_bipush (v := 100) dX2_scaleDraws_23 (by decide) ?_
        refine r_idiv dX2_scaleDraws_25 (by decide) ?_
        show RT _ _ _ _ (.int (scD t n j) :: _) _ _
        refine r_istore_5 dX2_scaleDraws_26 ?_
        refine r_iload_3 dX2_scaleDraws_28 ?_
        refine r_if_ne 44 dX2_scaleDraws_29 (by decide) (fun c_29 => by exact absurd hz c_29) (fun c_29 => ?_)
        refine r_iload_5 dX2_scaleDraws_32 ?_
        refine r_aload_0 dX2_scaleDraws_34 ?_
        refine r_getR (a := 44) dX2_scaleDraws_35 fl_X2_15 rfl rfl ?_
        refine r_iload_4 dX2_scaleDraws_38 ?_
        refine r_ialdN dX2_scaleDraws_40 rfl (by omega) ?_
        rw [k2]
        refine r_icmp_eq 48 dX2_scaleDraws_41 (by decide) (fun c_41 => by exact absurd c_41 he) (fun c_41 => ?_)
        refine r_iconst (v := 1) dX2_scaleDraws_44 (by decide) ?_
        refine r_goto 49 dX2_scaleDraws_45 (by decide) ?_
        refine r_istore_3 dX2_scaleDraws_49 ?_
        refine r_aload_0 dX2_scaleDraws_50 ?_
        refine r_getR (a := 44) dX2_scaleDraws_51 fl_X2_15 rfl rfl ?_
        refine r_iload_4 dX2_scaleDraws_54 ?_
        refine r_iload_5 dX2_scaleDraws_56 ?_
        refine r_iastN dX2_scaleDraws_58 rfl (by omega) ?_
        refine r_iincN_4 dX2_scaleDraws_59 ?_
        refine r_goto 5 dX2_scaleDraws_62 (by decide) ?_
        exact go _ _ (by unfold ot1; rw [if_pos hz, if_neg he])
    · skip
      refine r_iload_4 dX2_scaleDraws_5 ?_
      refine r_aload_0 dX2_scaleDraws_7 ?_
      refine r_getI dX2_scaleDraws_8 fl_X2_40 rfl ?_
      rw [k0]
      refine r_icmpN_ge 65 dX2_scaleDraws_11 (by decide) (by omega) (by omega) (fun c_11 => by omega) (fun c_11 => ?_)
      refine r_aload_1 dX2_scaleDraws_14 ?_
      refine r_getR (a := 17) dX2_scaleDraws_15 fl_X2_15 rfl rfl ?_
      refine r_iload_4 dX2_scaleDraws_18 ?_
      refine r_ialdN dX2_scaleDraws_20 rfl (by omega) ?_
      rw [k1]
      refine r_iload_2 dX2_scaleDraws_21 ?_
      refine r_imul dX2_scaleDraws_22 ?_
      refine r_bipush (v := 100) dX2_scaleDraws_23 (by decide) ?_
      refine r_idiv dX2_scaleDraws_25 (by decide) ?_
      show RT _ _ _ _ (.int (scD t n j) :: _) _ _
      refine r_istore_5 dX2_scaleDraws_26 ?_
      refine r_iload_3 dX2_scaleDraws_28 ?_
      refine r_if_ne 44 dX2_scaleDraws_29 (by decide) (fun c_29 => ?_) (fun c_29 => by exact absurd c_29 hz)
      refine r_iconst (v := 1) dX2_scaleDraws_44 (by decide) ?_
      refine r_goto 49 dX2_scaleDraws_45 (by decide) ?_
      refine r_istore_3 dX2_scaleDraws_49 ?_
      refine r_aload_0 dX2_scaleDraws_50 ?_
      refine r_getR (a := 44) dX2_scaleDraws_51 fl_X2_15 rfl rfl ?_
      refine r_iload_4 dX2_scaleDraws_54 ?_
      refine r_iload_5 dX2_scaleDraws_56 ?_
      refine r_iastN dX2_scaleDraws_58 rfl (by omega) ?_
      refine r_iincN_4 dX2_scaleDraws_59 ?_
      refine r_goto 5 dX2_scaleDraws_62 (by decide) ?_
      exact go _ _ (by unfold ot1; rw [if_neg hz])
set_option maxRecDepth 100000 in
set_option maxHeartbeats 4000000 in
theorem k_scale {t : NT} (ok : okT t) {n : Nat} {f : Nat → Int32} {h : PH} (nc : NetC h 15 t) (nc2 : NetC h 42 (setDr t f)) : Con mX2_scaleDraws 1 [.ref 42, .ref 15, .int (nI n)] h (fun x h' => x = some (.int (otS (scD t n) f (NT.J t) 0 0)) ∧ (NetC h' 42 (scT t n) ∧ Fr (fun y => y = 44) h h')) := by
  refine Con.mk (by decide) ?_
  show RT _ _ 0 [some (.ref 42), some (.ref 15), some (.int (nI n)), none, none, none] [] _ _
  refine r_iconst (v := 0) dX2_scaleDraws_0 (by decide) ?_
  refine r_istore_3 dX2_scaleDraws_1 ?_
  refine r_iconst (v := nI 0) dX2_scaleDraws_2 (by decide) ?_
  refine r_istore_4 dX2_scaleDraws_3 ?_
  exact scl_loop ok h nc nc2 (NT.J t) 0 0 h (by omega) (Or.inl rfl) (fun k hk => by omega) (fun k hk => rfl) Fr.rf

theorem op_dr {t : NT} {f : Nat → Int32} {sh : Int32} : opS (snOf (setDr t f)) sh = opS (snOf t) sh := funext fun e => (show (!bt (NT.cl t) e && !bt sh e) = (!bt (NT.cl t) e && !bt sh e) from rfl)
theorem tr_dr {t : NT} {f : Nat → Int32} {sh : Int32} : trS (snOf (setDr t f)) sh = trS (snOf t) sh := by
  show treeS (NT.E t) (NT.fi t) (NT.se t) (opS (snOf (setDr t f)) sh) = treeS (NT.E t) (NT.fi t) (NT.se t) (opS (snOf t) sh)
  rw [op_dr]
theorem RawM.sc {h : PH} {t : NT} (r : RawM h t) (tx : TxOK t) (h44 : h.1 74 44 = -1) (n : Nat) : NetM (pI h 74 46 (nI n)) (scT t n) := by
  have fr : FM slS slG h (pI h 74 46 (nI n)) := FM.rf.pF (by unfold slG; omega)
  refine (r.fm fr).dr tx (fun k h0 hk => ?_)
  have hJ9 := tx.1.2.1
  unfold drE
  rw [pI_eq, pI_ne 74 44 (Or.inr (by decide)), h44, if_neg (nI_ne_m1 (by omega)), Int32.add_zero, pI_ne 76 k (Or.inl (by decide)), (r.2.2.2.1 k hk).1, show tdM t k = NT.dr t k from if_neg (by omega)]
  rfl
/-- what stands on the reference's paper once the share is a hundred again -/
def ShM (h : PH) (t : NT) (n : Nat) : Prop := NetM h t ∧ TreeM h (trS (snOf t) (solveS (snOf (scT t n))).1) ∧ (∀ j, (trS (snOf t) (solveS (snOf (scT t n))).1).2.2.2 j = true → h.2 91 j = hdS (snOf (scT t n)) (solveS (snOf (scT t n))).1 j)
set_option maxRecDepth 100000 in
set_option maxHeartbeats 4000000 in
theorem q_shared {h : PH} {t : NT} (tx : TxOK t) (r : RawM h t) (h44 : h.1 74 44 = -1) {n : Nat} (hn : n ≤ 300) : Con mX8_solvesShared 7 [.ref 74, .int (nI n)] h (fun a h' => a = none ∧ (ShM h' t n ∧ h'.1 74 44 = -1 ∧ h'.1 74 46 = 100 ∧ FM slS slG h h')) := by
  refine Con.mk (by decide) ?_
  show RT _ _ 0 [some (.ref 74), some (.int (nI n))] [] _ _
  refine r_aload_0 dX8_solvesShared_0 ?_
  refine r_iload_1 dX8_solvesShared_1 ?_
  refine r_putI dX8_solvesShared_2 fl_X8_77 rfl rfl rfl ?_
  refine r_aload_0 dX8_solvesShared_5 ?_
  refine r_cWQ0 mX8_solves dX8_solvesShared_6 ml_X8_260 mo_X8_solves rfl (q_solves (tx.sc hn) (r.sc tx h44 n)) (by decide) (fun h1 p1 => ?_)
  obtain ⟨s1, f1⟩ := p1
  refine r_aload_0 dX8_solvesShared_9 ?_
  refine r_bipush (v := 100) dX8_solvesShared_10 (by decide) ?_
  refine r_putI dX8_solvesShared_12 fl_X8_77 rfl rfl rfl ?_
  refine r_vret dX8_solvesShared_15 rfl ?_
  have fr : FM slS slG h (pI h1 74 46 100) := ((FM.rf.pF (by unfold slG; omega)).tr f1.toG).pF (by unfold slG; omega)
  have e44 : (pI h1 74 46 100).1 74 44 = -1 := by
    rw [pI_ne 74 44 (Or.inr (by decide)), f1.1 44 (by unfold slF; omega), pI_ne 74 44 (Or.inr (by decide))]; exact h44
  have et : trS (snOf (scT t n)) (solveS (snOf (scT t n))).1 = trS (snOf t) (solveS (snOf (scT t n))).1 := tr_dr
  have s6 := s1.2.2.2.2.2.1
  have s9 := hd_at (tx.sc hn) _ s1.2.2.2.2.2.2.2.2
  rw [et] at s6 s9
  refine ⟨rfl, ⟨(r.fm fr).net tx e44 pI_eq, ?_, ?_⟩, e44, pI_eq, fr⟩
  · exact s6.ext (pI_ne 74 29 (Or.inr (by decide))) (pI_ne 74 32 (Or.inr (by decide))) (funext fun j => pI_ne 85 j (Or.inl (by decide))) (funext fun j => pI_ne 86 j (Or.inl (by decide)))
  · exact s9

