/-! ===== the class: Waters.keepFlows, areFlowsAsKept, sweepsToLeaveOut, sweepUpTo ===== -/
def KPT (w : Nat) (h h' : PH) : Prop := ((∀ e, e < 14 → h'.2 (w + 25) e = h.2 (w + 22) e) ∧ h'.1 w 7 = h.1 w 11 ∧ (∀ k, k ≠ 7 → h'.1 w k = h.1 w k) ∧ (∀ y, y ≠ w → h'.1 y = h.1 y) ∧ Fr (fun y => y = w ∨ y = w + 25) h h')
set_option maxRecDepth 100000 in
set_option maxHeartbeats 4000000 in
theorem k_keepFlows {w : Nat} (hW : isW w) (h : PH) : Con mX6_keepFlows 1 [.ref w] h (fun a h' => a = none ∧ KPT w h h') := by
  refine Con.mk (by decide) ?_
  show RT _ _ 0 [some (.ref w)] [] _ _
  refine r_aload_0 dX6_keepFlows_0 ?_
  refine r_getR (a := (w + 22)) dX6_keepFlows_1 fl_X6_32 (hW.s 0 (by decide)) rfl ?_
  refine r_iconst (v := 0) dX6_keepFlows_4 (by decide) ?_
  refine r_aload_0 dX6_keepFlows_5 ?_
  refine r_getR (a := (w + 25)) dX6_keepFlows_6 fl_X6_42 (hW.s 0 (by decide)) rfl ?_
  refine r_iconst (v := 0) dX6_keepFlows_9 (by decide) ?_
  refine r_bipush (v := 14) dX6_keepFlows_10 (by decide) ?_
  refine r_copyL dX6_keepFlows_12 ml_X6_163 mo_copy (hW.s 22 (by decide)) (hW.s 25 (by decide)) (by decide) (by decide) ?_
  refine r_aload_0 dX6_keepFlows_15 ?_
  refine r_aload_0 dX6_keepFlows_16 ?_
  refine r_getI dX6_keepFlows_17 fl_X6_118 (hW.s 0 (by decide)) ?_
  refine r_putI dX6_keepFlows_20 fl_X6_156 (hW.s 0 (by decide)) rfl rfl ?_
  refine r_vret dX6_keepFlows_23 rfl ?_
  refine ⟨rfl, fun e he => ?_, ?_, fun k hk => ?_, fun y hy => funext fun j => pI_ne y j (Or.inl hy), (Fr.rf.pB (Or.inr rfl)).pI (Or.inl rfl)⟩
  · simp (decide := true) only [pI_1, pI_2, pL_1, pL_2, pA_1, pA_2, pB_1, pB_2, Nat.add_left_cancel_iff, Nat.add_right_cancel_iff, Nat.add_eq_left, Nat.left_eq_add, true_and, false_and, and_false, and_true, and_self, if_true, if_false, ite_true, ite_false]
    rw [show (0 : Int32).toNatClampNeg = 0 by decide, show (14 : Int32).toNatClampNeg = 14 by decide, pk_cpy_in (by omega) (by omega)]
    rw [Nat.zero_add, Nat.sub_zero]
  · simp (decide := true) only [pI_1, pI_2, pL_1, pL_2, pA_1, pA_2, pB_1, pB_2, Nat.add_left_cancel_iff, Nat.add_right_cancel_iff, Nat.add_eq_left, Nat.left_eq_add, true_and, false_and, and_false, and_true, and_self, if_true, if_false, ite_true, ite_false]
  · simp (decide := true) only [pI_1, pI_2, pL_1, pL_2, pA_1, pA_2, pB_1, pB_2, Nat.add_left_cancel_iff, Nat.add_right_cancel_iff, Nat.add_eq_left, Nat.left_eq_add, true_and, false_and, and_false, and_true, and_self, if_true, if_false, ite_true, ite_false]
    rw [if_neg hk]

def akS (h : PH) (w E : Nat) : Bool := (fnd (fun e => decide (¬ h.2 (w + 22) e = h.2 (w + 25) e)) 0 E).isNone
theorem fnd_none {p : Nat → Bool} : ∀ {m j : Nat}, (fnd p j m).isNone = true ↔ ∀ i, j ≤ i → i < j + m → p i = false
  | 0, j => by simp [fnd]; intro i h1 h2; omega
  | m + 1, j => by
    unfold fnd
    by_cases hp : p j = true
    · rw [if_pos hp]
      simp
      exact ⟨j, Nat.le_refl _, by omega, hp⟩
    · rw [if_neg hp, fnd_none (m := m)]
      constructor
      · intro h i h1 h2
        by_cases q : i = j
        · subst q; simpa using hp
        · exact h i (by omega) (by omega)
      · intro h i h1 h2
        exact h i (by omega) (by omega)
theorem akS_iff {h : PH} {w E : Nat} : akS h w E = true ↔ ∀ e, e < E → h.2 (w + 22) e = h.2 (w + 25) e := by
  unfold akS
  rw [fnd_none]
  constructor
  · intro q e he
    have := q e (Nat.zero_le _) (by omega)
    simpa using this
  · intro q e _ he
    simpa using q e (by omega)
set_option maxRecDepth 100000 in
set_option maxHeartbeats 4000000 in
theorem asKept_loop {w : Nat} (hW : isW w) {t : NT} (ok : okT t) {h : PH} (nc : NetC h (w + 1) t) : ∀ (m e : Nat), e + m = NT.E t → RT mX6_areFlowsAsKept 1 2 [some (.ref w), some (.int (nI e))] [] h (fun a b => a = some (.int (b2i ((fnd (fun e => decide (¬ h.2 (w + 22) e = h.2 (w + 25) e)) e m).isNone = true))) ∧ b = h) := by
  have hE14 := ok.2.2.1
  intro m
  induction m with
  | zero =>
    intro e he
    refine r_iload_1 dX6_areFlowsAsKept_2 ?_
    refine r_aload_0 dX6_areFlowsAsKept_3 ?_
    refine r_getR (a := (w + 1)) dX6_areFlowsAsKept_4 fl_X6_12 (hW.s 0 (by decide)) rfl ?_
    refine r_getI dX6_areFlowsAsKept_7 fl_X6_83 (hW.s 1 (by decide)) ?_
    rw [nc.2.1]
    refine r_icmpN_ge 37 dX6_areFlowsAsKept_10 (by decide) (by omega) (by omega) (fun c_10 => ?_) (fun c_10 => by omega)
    refine r_iconst (v := 1) dX6_areFlowsAsKept_37 (by decide) ?_
    refine r_zret dX6_areFlowsAsKept_38 rfl rfl ?_
    exact ⟨by simp [fnd, b2i], rfl⟩
  | succ m ih =>
    intro e he
    refine r_iload_1 dX6_areFlowsAsKept_2 ?_
    refine r_aload_0 dX6_areFlowsAsKept_3 ?_
    refine r_getR (a := (w + 1)) dX6_areFlowsAsKept_4 fl_X6_12 (hW.s 0 (by decide)) rfl ?_
    refine r_getI dX6_areFlowsAsKept_7 fl_X6_83 (hW.s 1 (by decide)) ?_
    rw [nc.2.1]
    refine r_icmpN_ge 37 dX6_areFlowsAsKept_10 (by decide) (by omega) (by omega) (fun c_10 => by omega) (fun c_10 => ?_)
    refine r_aload_0 dX6_areFlowsAsKept_13 ?_
    refine r_getR (a := (w + 22)) dX6_areFlowsAsKept_14 fl_X6_32 (hW.s 0 (by decide)) rfl ?_
    refine r_iload_1 dX6_areFlowsAsKept_17 ?_
    refine r_laldN dX6_areFlowsAsKept_18 (hW.s 22 (by decide)) (by omega) ?_
    refine r_aload_0 dX6_areFlowsAsKept_19 ?_
    refine r_getR (a := (w + 25)) dX6_areFlowsAsKept_20 fl_X6_42 (hW.s 0 (by decide)) rfl ?_
    refine r_iload_1 dX6_areFlowsAsKept_23 ?_
    refine r_laldN dX6_areFlowsAsKept_24 (hW.s 25 (by decide)) (by omega) ?_
    refine r_lif_eq 31 dX6_areFlowsAsKept_25 dX6_areFlowsAsKept_26 (by decide) (fun c_25 => ?_) (fun c_25 => ?_)
    · refine r_iincN_1 dX6_areFlowsAsKept_31 ?_
      refine r_goto 2 dX6_areFlowsAsKept_34 (by decide) ?_
      have := ih (e + 1) (by omega)
      unfold fnd
      rw [if_neg (by simpa using c_25)]
      exact this
    · refine r_iconst (v := 0) dX6_areFlowsAsKept_29 (by decide) ?_
      refine r_zret dX6_areFlowsAsKept_30 rfl rfl ?_
      exact ⟨by unfold fnd; rw [if_pos (by simpa using c_25)]; simp [b2i], rfl⟩
set_option maxRecDepth 100000 in
set_option maxHeartbeats 4000000 in
theorem k_asKept {w : Nat} (hW : isW w) {t : NT} (ok : okT t) {h : PH} (nc : NetC h (w + 1) t) : ConF mX6_areFlowsAsKept 1 [.ref w] h (some (.int (b2i (akS h w (NT.E t) = true)))) h := by
  refine Con.mk (by decide) ?_
  show RT _ _ 0 [some (.ref w), none] [] _ _
  refine r_iconst (v := nI 0) dX6_areFlowsAsKept_0 (by decide) ?_
  refine r_istore_1 dX6_areFlowsAsKept_1 ?_
  exact asKept_loop hW ok nc (NT.E t) 0 (by omega)

def SLQ (w n k0 lim E : Nat) (h : PH) (r : Option Value) (h' : PH) : Prop := ∃ d : Nat, r = some (.int (nI d)) ∧ ((k0 < n ∧ akS h w E = true ∧ d = (lim - n) / (n - k0) * (n - k0) ∧ h' = h) ∨ (d = 0 ∧ (h' = h ∨ KPT w h h')))
set_option maxRecDepth 100000 in
set_option maxHeartbeats 4000000 in
theorem k_leaveOut {w : Nat} (hW : isW w) {t : NT} (ok : okT t) {h : PH} (nc : NetC h (w + 1) t) {n k0 lim : Nat} (hn : n ≤ lim) (hl : lim ≤ 60) (hk : k0 ≤ n) (s1 : h.1 w 11 = nI n) (s2 : h.1 w 7 = nI k0) : Con mX6_sweepsToLeaveOut 2 [.ref w, .int (nI lim)] h (SLQ w n k0 lim (NT.E t) h) := by
  refine Con.mk (by decide) ?_
  show RT _ _ 0 [some (.ref w), some (.int (nI lim)), none] [] _ _
  have J : RT mX6_sweepsToLeaveOut 2 32 [some (.ref w), some (.int (nI lim)), some (.int (nI (n - k0)))] [] h (SLQ w n k0 lim (NT.E t) h) := by
    refine r_aload_0 dX6_sweepsToLeaveOut_32 ?_
    refine r_getI dX6_sweepsToLeaveOut_33 fl_X6_118 (hW.s 0 (by decide)) ?_
    refine r_aload_0 dX6_sweepsToLeaveOut_36 ?_
    refine r_getI dX6_sweepsToLeaveOut_37 fl_X6_118 (hW.s 0 (by decide)) ?_
    refine r_iconst (v := 1) dX6_sweepsToLeaveOut_40 (by decide) ?_
    refine r_isub dX6_sweepsToLeaveOut_41 ?_
    refine r_iand dX6_sweepsToLeaveOut_42 ?_
    refine r_if_ne 50 dX6_sweepsToLeaveOut_43 (by decide) (fun c_43 => ?_) (fun c_43 => ?_)
    · refine r_iconst (v := 0) dX6_sweepsToLeaveOut_50 (by decide) ?_
      refine r_iret dX6_sweepsToLeaveOut_51 rfl ?_
      first | exact ⟨0, rfl, Or.inr ⟨rfl, Or.inr p1⟩⟩ | exact ⟨0, rfl, Or.inr ⟨rfl, Or.inl rfl⟩⟩
    · refine r_aload_0 dX6_sweepsToLeaveOut_46 ?_
      refine r_cWQ0 mX6_keepFlows dX6_sweepsToLeaveOut_47 ml_X6_121 mo_X6_keepFlows (hW.s 0 (by decide)) (k_keepFlows hW h) (by decide) (fun h1 p1 => ?_)
      refine r_iconst (v := 0) dX6_sweepsToLeaveOut_50 (by decide) ?_
      refine r_iret dX6_sweepsToLeaveOut_51 rfl ?_
      first | exact ⟨0, rfl, Or.inr ⟨rfl, Or.inr p1⟩⟩ | exact ⟨0, rfl, Or.inr ⟨rfl, Or.inl rfl⟩⟩
  refine r_aload_0 dX6_sweepsToLeaveOut_0 ?_
  refine r_getI dX6_sweepsToLeaveOut_1 fl_X6_118 (hW.s 0 (by decide)) ?_
  rw [s1]
  refine r_aload_0 dX6_sweepsToLeaveOut_4 ?_
  refine r_getI dX6_sweepsToLeaveOut_5 fl_X6_156 (hW.s 0 (by decide)) ?_
  rw [s2]
  refine r_isub dX6_sweepsToLeaveOut_8 ?_
  rw [pk_sub hk]
  refine r_istore_2 dX6_sweepsToLeaveOut_9 ?_
  refine r_iload_2 dX6_sweepsToLeaveOut_10 ?_
  refine r_if_le 32 dX6_sweepsToLeaveOut_11 (by decide) (fun c_11 => ?_) (fun c_11 => ?_)
  · exact J
  · have c11 : 0 < n - k0 := Nat.pos_of_ne_zero (fun z => c_11 (by rw [z]; decide))
    refine r_aload_0 dX6_sweepsToLeaveOut_14 ?_
    refine r_cV0 mX6_areFlowsAsKept dX6_sweepsToLeaveOut_15 ml_X6_159 mo_X6_areFlowsAsKept (hW.s 0 (by decide)) (k_asKept hW ok nc) (by decide) ?_
    refine r_if_eq 32 dX6_sweepsToLeaveOut_18 (by decide) (fun c_18 => ?_) (fun c_18 => ?_)
    · exact J
    · refine r_iload_1 dX6_sweepsToLeaveOut_21 ?_
      refine r_aload_0 dX6_sweepsToLeaveOut_22 ?_
      refine r_getI dX6_sweepsToLeaveOut_23 fl_X6_118 (hW.s 0 (by decide)) ?_
      rw [s1]
      refine r_isub dX6_sweepsToLeaveOut_26 ?_
      rw [pk_sub hn]
      refine r_iload_2 dX6_sweepsToLeaveOut_27 ?_
      refine r_idiv dX6_sweepsToLeaveOut_28 (nI_ne0 c11 (by omega)) ?_
      rw [pk_div (by omega) c11 (by omega)]
      refine r_iload_2 dX6_sweepsToLeaveOut_29 ?_
      refine r_imul dX6_sweepsToLeaveOut_30 ?_
      rw [pk_mul]
      refine r_iret dX6_sweepsToLeaveOut_31 rfl ?_
      exact ⟨_, rfl, Or.inl ⟨by omega, b2i_ne.mp c_18, rfl, rfl⟩⟩

