/-! ===== the class: an act is noted ===== -/
def shA (ac : List NT) : Nat := if ac.length = 12 then 1 else 0
def pushA (ac : List NT) (t : NT) : List NT := ac.drop (shA ac) ++ [t]
theorem pushA_len {ac : List NT} (h : ac.length ≤ 12) (t : NT) : (pushA ac t).length = ac.length + 1 - shA ac ∧ (pushA ac t).length ≤ 12 := by
  unfold pushA shA
  rw [List.length_append, List.length_drop]
  split
  · rw [List.length_singleton]; omega
  · rw [List.length_singleton]; omega
theorem getD_app {α : Type} (l m : List α) (k : Nat) (d : α) : (l ++ m).getD k d = if k < l.length then l.getD k d else m.getD (k - l.length) d := by
  rw [List.getD_eq_getElem?_getD, List.getElem?_append]
  split
  · rw [List.getD_eq_getElem?_getD]
  · rw [List.getD_eq_getElem?_getD]
theorem getD_lt {α : Type} {l : List α} {k : Nat} (h : k < l.length) (d d' : α) : l.getD k d = l.getD k d' := by
  rw [List.getD_eq_getElem?_getD, List.getD_eq_getElem?_getD, List.getElem?_eq_getElem h]; rfl
theorem acAt_lt {ac : List NT} {t : NT} {k : Nat} (h : k < ac.length) : acAt ac t k = ac.getD k t := by
  unfold acAt; rw [getD_app, if_pos h]
theorem acAt_len {ac : List NT} {t : NT} : acAt ac t ac.length = t := by
  unfold acAt; rw [getD_app, if_neg (by omega), Nat.sub_self]; rfl
theorem acAt_push {ac : List NT} (h12 : ac.length ≤ 12) {t t' : NT} {k : Nat} (h : k + shA ac ≤ ac.length) : acAt (pushA ac t) t' k = acAt ac t (k + shA ac) := by
  have hl := (pushA_len h12 t).1
  have hs : shA ac ≤ 1 := by unfold shA; split <;> omega
  rw [acAt_lt (by omega)]
  unfold pushA acAt
  rw [getD_app, getD_app]
  have hd : (ac.drop (shA ac)).length = ac.length - shA ac := List.length_drop
  by_cases q : k + shA ac < ac.length
  · rw [if_pos (by omega), if_pos q, List.getD_eq_getElem?_getD, List.getElem?_drop, List.getD_eq_getElem?_getD, Nat.add_comm, List.getElem?_eq_getElem q]; rfl
  · rw [if_neg (by omega), if_neg q, show k - (ac.drop (shA ac)).length = 0 by omega, show k + shA ac - ac.length = 0 by omega]; rfl
theorem acAt_last {ac : List NT} (h12 : ac.length ≤ 12) {t t' : NT} {k : Nat} (h : k + shA ac = ac.length + 1) : acAt (pushA ac t) t' k = t' := by
  have hl := (pushA_len h12 t).1
  rw [show k = (pushA ac t).length by omega]; exact acAt_len
def acR : Nat → Prop := fun y => 68 ≤ y ∧ y ≤ 71
theorem cp1 {α : Type} {f g : Nat → α} {n j : Nat} (h : j < n) : va_cpy f g 1 0 n j = f (j + 1) := by
  rw [pk_cpy_in (by omega) (by omega), Nat.sub_zero, Nat.add_comm]
theorem c1 : (1 : Int32).toNatClampNeg = 1 := by decide
theorem c11 : (11 : Int32).toNatClampNeg = 11 := by decide
set_option maxRecDepth 100000 in
set_option maxHeartbeats 4000000 in
theorem k_drop (h : PH) : Con mX0_dropFirst 1 [.ref 68] h (fun x h' => x = none ∧ (h'.1 68 0 = 11 ∧ (∀ k, k < 11 → h'.1 69 k = h.1 69 (k + 1) ∧ h'.1 70 k = h.1 70 (k + 1) ∧ h'.1 71 k = h.1 71 (k + 1)) ∧ Fr acR h h')) := by
  refine Con.mk (by decide) ?_
  show RT _ _ 0 [some (.ref 68)] [] _ _
  refine r_aload_0 dX0_dropFirst_0 ?_
  refine r_bipush (v := 11) dX0_dropFirst_1 (by decide) ?_
  refine r_putI dX0_dropFirst_3 fl_X0_21 rfl rfl rfl ?_
  refine r_aload_0 dX0_dropFirst_6 ?_
  refine r_getR (a := 69) dX0_dropFirst_7 fl_X0_9 rfl rfl ?_
  refine r_iconst (v := 1) dX0_dropFirst_10 (by decide) ?_
  refine r_aload_0 dX0_dropFirst_11 ?_
  refine r_getR (a := 69) dX0_dropFirst_12 fl_X0_9 rfl rfl ?_
  refine r_iconst (v := 0) dX0_dropFirst_15 (by decide) ?_
  refine r_aload_0 dX0_dropFirst_16 ?_
  refine r_getI dX0_dropFirst_17 fl_X0_21 rfl ?_
  simp (decide := true) only [pI_1, pI_2, pL_1, pL_2, pA_1, pA_2, pB_1, pB_2, Nat.add_left_cancel_iff, Nat.add_right_cancel_iff, Nat.add_eq_left, Nat.left_eq_add, true_and, false_and, and_false, and_true, and_self, if_true, if_false, ite_true, ite_false]
  refine r_copyI dX0_dropFirst_20 ml_X0_28 mo_copy rfl rfl (by decide) (by decide) ?_
  refine r_aload_0 dX0_dropFirst_23 ?_
  refine r_getR (a := 70) dX0_dropFirst_24 fl_X0_15 rfl rfl ?_
  refine r_iconst (v := 1) dX0_dropFirst_27 (by decide) ?_
  refine r_aload_0 dX0_dropFirst_28 ?_
  refine r_getR (a := 70) dX0_dropFirst_29 fl_X0_15 rfl rfl ?_
  refine r_iconst (v := 0) dX0_dropFirst_32 (by decide) ?_
  refine r_aload_0 dX0_dropFirst_33 ?_
  refine r_getI dX0_dropFirst_34 fl_X0_21 rfl ?_
  simp (decide := true) only [pI_1, pI_2, pL_1, pL_2, pA_1, pA_2, pB_1, pB_2, Nat.add_left_cancel_iff, Nat.add_right_cancel_iff, Nat.add_eq_left, Nat.left_eq_add, true_and, false_and, and_false, and_true, and_self, if_true, if_false, ite_true, ite_false]
  refine r_copyI dX0_dropFirst_37 ml_X0_28 mo_copy rfl rfl (by decide) (by decide) ?_
  refine r_aload_0 dX0_dropFirst_40 ?_
  refine r_getR (a := 71) dX0_dropFirst_41 fl_X0_18 rfl rfl ?_
  refine r_iconst (v := 1) dX0_dropFirst_44 (by decide) ?_
  refine r_aload_0 dX0_dropFirst_45 ?_
  refine r_getR (a := 71) dX0_dropFirst_46 fl_X0_18 rfl rfl ?_
  refine r_iconst (v := 0) dX0_dropFirst_49 (by decide) ?_
  refine r_aload_0 dX0_dropFirst_50 ?_
  refine r_getI dX0_dropFirst_51 fl_X0_21 rfl ?_
  simp (decide := true) only [pI_1, pI_2, pL_1, pL_2, pA_1, pA_2, pB_1, pB_2, Nat.add_left_cancel_iff, Nat.add_right_cancel_iff, Nat.add_eq_left, Nat.left_eq_add, true_and, false_and, and_false, and_true, and_self, if_true, if_false, ite_true, ite_false]
  refine r_copyI dX0_dropFirst_54 ml_X0_28 mo_copy rfl rfl (by decide) (by decide) ?_
  refine r_vret dX0_dropFirst_57 rfl ?_
  refine ⟨rfl, ?_, fun k hk => ⟨?_, ?_, ?_⟩, (((Fr.rf.pI ⟨by omega, by omega⟩).pA ⟨by omega, by omega⟩).pA ⟨by omega, by omega⟩).pA ⟨by omega, by omega⟩⟩
  all_goals simp (decide := true) only [pI_1, pI_2, pL_1, pL_2, pA_1, pA_2, pB_1, pB_2, Nat.add_left_cancel_iff, Nat.add_right_cancel_iff, Nat.add_eq_left, Nat.left_eq_add, true_and, false_and, and_false, and_true, and_self, if_true, if_false, ite_true, ite_false, c0, c1, c11]
  all_goals exact cp1 hk

set_option maxRecDepth 100000 in
set_option maxHeartbeats 4000000 in
theorem k_noteA {h : PH} {t t' : NT} {ac : List NT} (acc : ActC h t ac) (tx : TxOK t) {kd p o : Int32} (tb : TB kd p o t' t) : Con mX0_note 2 [.ref 68, .int kd, .int p, .int o] h (fun x h' => x = none ∧ (ActC h' t' (pushA ac t) ∧ Fr acR h h')) := by
  obtain ⟨a1, a2, a3⟩ := acc
  have hl := pushA_len a2 t
  have fin : ∀ h1 n, n + shA ac = ac.length → h1.1 68 0 = nI n → (∀ k, k < n → h1.1 69 k = h.1 69 (k + shA ac) ∧ h1.1 70 k = h.1 70 (k + shA ac) ∧ h1.1 71 k = h.1 71 (k + shA ac)) → ActC (pI (pI (pI (pI h1 69 n kd) 70 n p) 71 n o) 68 0 (nI (n + 1))) t' (pushA ac t) := fun h1 n hn e0 ek => by
    refine ⟨by rw [pI_eq, hl.1]; congr 1; omega, hl.2, fun k hk => ?_⟩
    by_cases q : k = n
    · subst q
      rw [acAt_push a2 (by omega), acAt_last a2 (by omega), show k + shA ac = ac.length from hn, acAt_len]
      refine ⟨tx, ?_⟩
      have e1 : (pI (pI (pI (pI h1 69 k kd) 70 k p) 71 k o) 68 0 (nI (k + 1))).1 69 k = kd := by rw [pI_ne 69 k (Or.inl (by decide)), pI_ne 69 k (Or.inl (by decide)), pI_ne 69 k (Or.inl (by decide)), pI_eq]
      have e2 : (pI (pI (pI (pI h1 69 k kd) 70 k p) 71 k o) 68 0 (nI (k + 1))).1 70 k = p := by rw [pI_ne 70 k (Or.inl (by decide)), pI_ne 70 k (Or.inl (by decide)), pI_eq]
      have e3 : (pI (pI (pI (pI h1 69 k kd) 70 k p) 71 k o) 68 0 (nI (k + 1))).1 71 k = o := by rw [pI_ne 71 k (Or.inl (by decide)), pI_eq]
      rw [e1, e2, e3]; exact tb
    · have hk' : k < n := by omega
      rw [acAt_push a2 (by omega), acAt_push a2 (by omega)]
      have e1 : (pI (pI (pI (pI h1 69 n kd) 70 n p) 71 n o) 68 0 (nI (n + 1))).1 69 k = h.1 69 (k + shA ac) := by rw [pI_ne 69 k (Or.inl (by decide)), pI_ne 69 k (Or.inl (by decide)), pI_ne 69 k (Or.inl (by decide)), pI_ne 69 k (Or.inr q)]; exact (ek k hk').1
      have e2 : (pI (pI (pI (pI h1 69 n kd) 70 n p) 71 n o) 68 0 (nI (n + 1))).1 70 k = h.1 70 (k + shA ac) := by rw [pI_ne 70 k (Or.inl (by decide)), pI_ne 70 k (Or.inl (by decide)), pI_ne 70 k (Or.inr q), pI_ne 70 k (Or.inl (by decide))]; exact (ek k hk').2.1
      have e3 : (pI (pI (pI (pI h1 69 n kd) 70 n p) 71 n o) 68 0 (nI (n + 1))).1 71 k = h.1 71 (k + shA ac) := by rw [pI_ne 71 k (Or.inl (by decide)), pI_ne 71 k (Or.inr q), pI_ne 71 k (Or.inl (by decide)), pI_ne 71 k (Or.inl (by decide))]; exact (ek k hk').2.2
      rw [e1, e2, e3, show k + 1 + shA ac = k + shA ac + 1 by omega]
      exact a3 (k + shA ac) (by omega)
  have tail : ∀ h1 n, n < 12 → n + shA ac = ac.length → h1.1 68 0 = nI n → (∀ k, k < n → h1.1 69 k = h.1 69 (k + shA ac) ∧ h1.1 70 k = h.1 70 (k + shA ac) ∧ h1.1 71 k = h.1 71 (k + shA ac)) → Fr acR h h1 → RT mX0_note 2 13 [some (.ref 68), some (.int kd), some (.int p), some (.int o)] [] h1 (fun x h' => x = none ∧ (ActC h' t' (pushA ac t) ∧ Fr acR h h')) := fun h1 n h12 hn e0 ek fr => by
    have g1 : (pI h1 69 n kd).1 68 0 = nI n := (pI_ne 68 0 (Or.inl (by decide))).trans e0
    have g2 : (pI (pI h1 69 n kd) 70 n p).1 68 0 = nI n := (pI_ne 68 0 (Or.inl (by decide))).trans g1
    have g3 : (pI (pI (pI h1 69 n kd) 70 n p) 71 n o).1 68 0 = nI n := (pI_ne 68 0 (Or.inl (by decide))).trans g2
    refine r_aload_0 dX0_note_13 ?_
    refine r_getR (a := 69) dX0_note_14 fl_X0_9 rfl rfl ?_
    refine r_aload_0 dX0_note_17 ?_
    refine r_getI dX0_note_18 fl_X0_21 rfl ?_
    rw [e0]
    refine r_iload_1 dX0_note_21 ?_
    refine r_iastN dX0_note_22 rfl (by omega) ?_
    refine r_aload_0 dX0_note_23 ?_
    refine r_getR (a := 70) dX0_note_24 fl_X0_15 rfl rfl ?_
    refine r_aload_0 dX0_note_27 ?_
    refine r_getI dX0_note_28 fl_X0_21 rfl ?_
    rw [g1]
    refine r_iload_2 dX0_note_31 ?_
    refine r_iastN dX0_note_32 rfl (by omega) ?_
    refine r_aload_0 dX0_note_33 ?_
    refine r_getR (a := 71) dX0_note_34 fl_X0_18 rfl rfl ?_
    refine r_aload_0 dX0_note_37 ?_
    refine r_getI dX0_note_38 fl_X0_21 rfl ?_
    rw [g2]
    refine r_iload_3 dX0_note_41 ?_
    refine r_iastN dX0_note_42 rfl (by omega) ?_
    refine r_aload_0 dX0_note_43 ?_
    refine r_dupr dX0_note_44 ?_
    refine r_getI dX0_note_45 fl_X0_21 rfl ?_
    rw [g3]
    refine r_iconst (v := nI 1) dX0_note_48 (by decide) ?_
    refine r_iadd dX0_note_49 ?_
    rw [nI_ad9]
    refine r_putI dX0_note_50 fl_X0_21 rfl rfl rfl ?_
    refine r_vret dX0_note_53 rfl ?_
    exact ⟨rfl, fin h1 n hn e0 ek, (((fr.pI ⟨by omega, by omega⟩).pI ⟨by omega, by omega⟩).pI ⟨by omega, by omega⟩).pI ⟨by omega, by omega⟩⟩
  refine Con.mk (by decide) ?_
  show RT _ _ 0 [some (.ref 68), some (.int kd), some (.int p), some (.int o)] [] _ _
  by_cases hq : ac.length = 12
  · have hs : shA ac = 1 := if_pos hq
    refine r_aload_0 dX0_note_0 ?_
    refine r_getI dX0_note_1 fl_X0_21 rfl ?_
    rw [a1]
    refine r_bipush (v := nI 12) dX0_note_4 (by decide) ?_
    refine r_icmpN_lt 13 dX0_note_6 (by decide) (by omega) (by omega) (fun c_6 => by omega) (fun c_6 => ?_)
    refine r_aload_0 dX0_note_9 ?_
    refine r_cWQ0 mX0_dropFirst dX0_note_10 ml_X0_25 mo_X0_dropFirst rfl (k_drop h) (by decide) (fun h1 p1 => ?_)
    obtain ⟨d1, d2, d3⟩ := p1
    exact tail h1 11 (by omega) (by omega) d1 (fun k hk => by rw [hs]; exact d2 k hk) d3
  · have hs : shA ac = 0 := if_neg hq
    refine r_aload_0 dX0_note_0 ?_
    refine r_getI dX0_note_1 fl_X0_21 rfl ?_
    rw [a1]
    refine r_bipush (v := nI 12) dX0_note_4 (by decide) ?_
    refine r_icmpN_lt 13 dX0_note_6 (by decide) (by omega) (by omega) (fun c_6 => ?_) (fun c_6 => by omega)
    exact tail h ac.length (by omega) (by omega) a1 (fun k hk => by rw [hs]; exact ⟨rfl, rfl, rfl⟩) Fr.rf

set_option maxRecDepth 100000 in
set_option maxHeartbeats 4000000 in
theorem k_settle {t : NT} (ok : okT t) {h : PH} (nc : NetC h 15 t) : Con mX7_settle 6 [.ref 0] h (fun a h' => a = none ∧ (SolC h' 14 t (solveS (snOf t)) ∧ h'.1 72 2 = 0 ∧ h'.1 72 0 = h.1 72 0 ∧ Fr (fun y => rgW 14 y ∨ y = 72) h h')) := by
  refine Con.mk (by decide) ?_
  show RT _ _ 0 [some (.ref 0)] [] _ _
  refine r_aload_0 dX7_settle_0 ?_
  refine r_getR (a := 14) dX7_settle_1 fl_X7_29 rfl rfl ?_
  refine r_cWQ0 mX6_solve dX7_settle_4 ml_X7_248 mo_X6_solve rfl (k_solve isW14 ok nc) (by decide) (fun h1 p1 => ?_)
  obtain ⟨s1, f1⟩ := p1
  refine r_aload_0 dX7_settle_7 ?_
  refine r_getR (a := 72) dX7_settle_8 fl_X7_54 rfl rfl ?_
  refine r_iconst (v := 0) dX7_settle_11 (by decide) ?_
  refine r_putZ dX7_settle_12 fl_X7_284 rfl rfl rfl (by first | exact Or.inl rfl | exact Or.inr rfl) ?_
  refine r_vret dX7_settle_15 rfl ?_
  have f2 : Fr (fun y => y = 72) h1 (pI h1 72 2 0) := Fr.rf.pI rfl
  obtain ⟨s1, s2, s3, s4, s5, s6, s7, s8, s9⟩ := s1
  have g : (pI h1 72 2 0).1 14 = h1.1 14 := (f2 14 (by decide)).1
  refine ⟨rfl, ⟨s1.fr f2 (fun j hj q => by omega), by rw [g]; exact s2, by rw [g]; exact s3, by rw [g]; exact s4, by rw [g]; exact s5, s6.fr f2 (fun j hj q => by omega), s7.fr f2 (fun j hj q => by omega), s8, s9⟩, pI_eq, ?_, (f1.wk (fun _ q => Or.inl q)).pI (Or.inr rfl)⟩
  rw [pI_ne 72 0 (Or.inr (by decide)), (f1 72 (fun q => by unfold rgW at q; omega)).1]

