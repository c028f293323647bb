/-! ===== the class: Net.copyFrom ===== -/
def cpR (o : Nat) : Nat → Prop := fun y => o ≤ y ∧ y < o + 10
theorem cp0 {α : Type} {f g : Nat → α} {n j : Nat} (h : j < n) : va_cpy f g 0 0 n j = f j := by
  rw [pk_cpy_in (by omega) (by omega), Nat.zero_add, Nat.sub_zero]
theorem c9 : (9 : Int32).toNatClampNeg = 9 := by decide
theorem c0 : (0 : Int32).toNatClampNeg = 0 := by decide
theorem c14 : (14 : Int32).toNatClampNeg = 14 := by decide
theorem c84 : (84 : Int32).toNatClampNeg = 84 := by decide
def CPN (a b : Nat) (h h' : PH) : Prop := (∀ k, k < 4 → h'.1 a k = h.1 b k) ∧ (∀ j, j < 9 → h'.2 (a + 1) j = h.2 (b + 1) j ∧ h'.1 (a + 2) j = h.1 (b + 2) j ∧ h'.1 (a + 3) j = h.1 (b + 3) j) ∧ (∀ e, e < 14 → h'.1 (a + 4) e = h.1 (b + 4) e ∧ h'.1 (a + 5) e = h.1 (b + 5) e ∧ h'.1 (a + 6) e = h.1 (b + 6) e ∧ h'.1 (a + 7) e = h.1 (b + 7) e ∧ h'.1 (a + 8) e = h.1 (b + 8) e) ∧ (∀ k, k < 84 → h'.1 (a + 9) k = h.1 (b + 9) k) ∧ Fr (cpR a) h h'
theorem CPN.net {a b : Nat} {h h' : PH} {t : NT} (ok : okT t) (c : CPN a b h h') (nc : NetC h b t) : NetC h' a t := by
  obtain ⟨c1, c2, c3, c4, -⟩ := c
  obtain ⟨n1, n2, n3, n4, n5, n6⟩ := nc
  have hE := ok.2.2.1
  have hJ := ok.2.1
  refine ⟨by rw [c1 0 (by omega)]; exact n1, by rw [c1 1 (by omega)]; exact n2, by rw [c1 2 (by omega)]; exact n3, by rw [c1 3 (by omega)]; exact n4, fun j hj => ?_, fun e he => ?_⟩
  · rw [(c2 j (by omega)).2.1, (c2 j (by omega)).2.2]; exact n5 j hj
  · obtain ⟨d1, d2, d3, d4, d5⟩ := c3 e (by omega)
    obtain ⟨m1, m2, m3, m4, m5, m6⟩ := n6 e he
    have hl := (ok.2.2.2.1 e he).2.2.2.2.2.1
    exact ⟨by rw [d1]; exact m1, by rw [d2]; exact m2, by rw [d3]; exact m3, fun q => by rw [d4]; exact m4 q, by rw [d5]; exact m5, fun k hk => by rw [c4 (6 * e + k) (by omega)]; exact m6 k hk⟩
set_option maxRecDepth 100000 in
set_option maxHeartbeats 4000000 in
theorem k_copy_42_15 (h : PH) : Con mX2_copyFrom 1 [.ref 42, .ref 15] h (fun x h' => x = none ∧ CPN 42 15 h h') := by
  refine Con.mk (by decide) ?_
  show RT _ _ 0 [some (.ref 42), some (.ref 15)] [] _ _
  refine r_aload_0 dX2_copyFrom_0 ?_
  refine r_aload_1 dX2_copyFrom_1 ?_
  refine r_getI dX2_copyFrom_2 fl_X2_40 rfl ?_
  refine r_putI dX2_copyFrom_5 fl_X2_40 rfl rfl rfl ?_
  refine r_aload_0 dX2_copyFrom_8 ?_
  refine r_aload_1 dX2_copyFrom_9 ?_
  refine r_getI dX2_copyFrom_10 fl_X2_44 rfl ?_
  refine r_putI dX2_copyFrom_13 fl_X2_44 rfl rfl rfl ?_
  refine r_aload_0 dX2_copyFrom_16 ?_
  refine r_aload_1 dX2_copyFrom_17 ?_
  refine r_getI dX2_copyFrom_18 fl_X2_47 rfl ?_
  refine r_putI dX2_copyFrom_21 fl_X2_47 rfl rfl rfl ?_
  refine r_aload_0 dX2_copyFrom_24 ?_
  refine r_aload_1 dX2_copyFrom_25 ?_
  refine r_getI dX2_copyFrom_26 fl_X2_50 rfl ?_
  refine r_putI dX2_copyFrom_29 fl_X2_50 rfl rfl rfl ?_
  refine r_aload_1 dX2_copyFrom_32 ?_
  refine r_getR (a := 16) dX2_copyFrom_33 fl_X2_9 rfl rfl ?_
  refine r_iconst (v := 0) dX2_copyFrom_36 (by decide) ?_
  refine r_aload_0 dX2_copyFrom_37 ?_
  refine r_getR (a := 43) dX2_copyFrom_38 fl_X2_9 rfl rfl ?_
  refine r_iconst (v := 0) dX2_copyFrom_41 (by decide) ?_
  refine r_bipush (v := 9) dX2_copyFrom_42 (by decide) ?_
  refine r_copyL dX2_copyFrom_44 ml_X2_53 mo_copy rfl rfl (by decide) (by decide) ?_
  refine r_aload_1 dX2_copyFrom_47 ?_
  refine r_getR (a := 17) dX2_copyFrom_48 fl_X2_15 rfl rfl ?_
  refine r_iconst (v := 0) dX2_copyFrom_51 (by decide) ?_
  refine r_aload_0 dX2_copyFrom_52 ?_
  refine r_getR (a := 44) dX2_copyFrom_53 fl_X2_15 rfl rfl ?_
  refine r_iconst (v := 0) dX2_copyFrom_56 (by decide) ?_
  refine r_bipush (v := 9) dX2_copyFrom_57 (by decide) ?_
  refine r_copyI dX2_copyFrom_59 ml_X2_53 mo_copy rfl rfl (by decide) (by decide) ?_
  refine r_aload_1 dX2_copyFrom_62 ?_
  refine r_getR (a := 18) dX2_copyFrom_63 fl_X2_19 rfl rfl ?_
  refine r_iconst (v := 0) dX2_copyFrom_66 (by decide) ?_
  refine r_aload_0 dX2_copyFrom_67 ?_
  refine r_getR (a := 45) dX2_copyFrom_68 fl_X2_19 rfl rfl ?_
  refine r_iconst (v := 0) dX2_copyFrom_71 (by decide) ?_
  refine r_bipush (v := 9) dX2_copyFrom_72 (by decide) ?_
  refine r_copyI dX2_copyFrom_74 ml_X2_53 mo_copy rfl rfl (by decide) (by decide) ?_
  refine r_aload_1 dX2_copyFrom_77 ?_
  refine r_getR (a := 19) dX2_copyFrom_78 fl_X2_22 rfl rfl ?_
  refine r_iconst (v := 0) dX2_copyFrom_81 (by decide) ?_
  refine r_aload_0 dX2_copyFrom_82 ?_
  refine r_getR (a := 46) dX2_copyFrom_83 fl_X2_22 rfl rfl ?_
  refine r_iconst (v := 0) dX2_copyFrom_86 (by decide) ?_
  refine r_bipush (v := 14) dX2_copyFrom_87 (by decide) ?_
  refine r_copyI dX2_copyFrom_89 ml_X2_53 mo_copy rfl rfl (by decide) (by decide) ?_
  refine r_aload_1 dX2_copyFrom_92 ?_
  refine r_getR (a := 20) dX2_copyFrom_93 fl_X2_25 rfl rfl ?_
  refine r_iconst (v := 0) dX2_copyFrom_96 (by decide) ?_
  refine r_aload_0 dX2_copyFrom_97 ?_
  refine r_getR (a := 47) dX2_copyFrom_98 fl_X2_25 rfl rfl ?_
  refine r_iconst (v := 0) dX2_copyFrom_101 (by decide) ?_
  refine r_bipush (v := 14) dX2_copyFrom_102 (by decide) ?_
  refine r_copyI dX2_copyFrom_104 ml_X2_53 mo_copy rfl rfl (by decide) (by decide) ?_
  refine r_aload_1 dX2_copyFrom_107 ?_
  refine r_getR (a := 21) dX2_copyFrom_108 fl_X2_28 rfl rfl ?_
  refine r_iconst (v := 0) dX2_copyFrom_111 (by decide) ?_
  refine r_aload_0 dX2_copyFrom_112 ?_
  refine r_getR (a := 48) dX2_copyFrom_113 fl_X2_28 rfl rfl ?_
  refine r_iconst (v := 0) dX2_copyFrom_116 (by decide) ?_
  refine r_bipush (v := 14) dX2_copyFrom_117 (by decide) ?_
  refine r_copyI dX2_copyFrom_119 ml_X2_53 mo_copy rfl rfl (by decide) (by decide) ?_
  refine r_aload_1 dX2_copyFrom_122 ?_
  refine r_getR (a := 22) dX2_copyFrom_123 fl_X2_31 rfl rfl ?_
  refine r_iconst (v := 0) dX2_copyFrom_126 (by decide) ?_
  refine r_aload_0 dX2_copyFrom_127 ?_
  refine r_getR (a := 49) dX2_copyFrom_128 fl_X2_31 rfl rfl ?_
  refine r_iconst (v := 0) dX2_copyFrom_131 (by decide) ?_
  refine r_bipush (v := 14) dX2_copyFrom_132 (by decide) ?_
  refine r_copyI dX2_copyFrom_134 ml_X2_53 mo_copy rfl rfl (by decide) (by decide) ?_
  refine r_aload_1 dX2_copyFrom_137 ?_
  refine r_getR (a := 23) dX2_copyFrom_138 fl_X2_34 rfl rfl ?_
  refine r_iconst (v := 0) dX2_copyFrom_141 (by decide) ?_
  refine r_aload_0 dX2_copyFrom_142 ?_
  refine r_getR (a := 50) dX2_copyFrom_143 fl_X2_34 rfl rfl ?_
  refine r_iconst (v := 0) dX2_copyFrom_146 (by decide) ?_
  refine r_bipush (v := 14) dX2_copyFrom_147 (by decide) ?_
  refine r_copyI dX2_copyFrom_149 ml_X2_53 mo_copy rfl rfl (by decide) (by decide) ?_
  refine r_aload_1 dX2_copyFrom_152 ?_
  refine r_getR (a := 24) dX2_copyFrom_153 fl_X2_37 rfl rfl ?_
  refine r_iconst (v := 0) dX2_copyFrom_156 (by decide) ?_
  refine r_aload_0 dX2_copyFrom_157 ?_
  refine r_getR (a := 51) dX2_copyFrom_158 fl_X2_37 rfl rfl ?_
  refine r_iconst (v := 0) dX2_copyFrom_161 (by decide) ?_
  refine r_bipush (v := 84) dX2_copyFrom_162 (by decide) ?_
  refine r_copyI dX2_copyFrom_164 ml_X2_53 mo_copy rfl rfl (by decide) (by decide) ?_
  refine r_vret dX2_copyFrom_167 rfl ?_
  refine ⟨rfl, fun k hk => ?_, fun j hj => ?_, fun e he => ?_, fun k hk => ?_, (((((((((((((Fr.rf.pI ⟨by omega, by omega⟩).pI ⟨by omega, by omega⟩).pI ⟨by omega, by omega⟩).pI ⟨by omega, by omega⟩).pB ⟨by omega, by omega⟩).pA ⟨by omega, by omega⟩).pA ⟨by omega, by omega⟩).pA ⟨by omega, by omega⟩).pA ⟨by omega, by omega⟩).pA ⟨by omega, by omega⟩).pA ⟨by omega, by omega⟩).pA ⟨by omega, by omega⟩).pA ⟨by omega, by omega⟩)⟩
  · have hk4 : k = 0 ∨ k = 1 ∨ k = 2 ∨ k = 3 := by omega
    rcases hk4 with rfl | rfl | rfl | rfl
    all_goals simp (decide := true) only [pI_1, pI_2, pL_1, pL_2, pA_1, pA_2, pB_1, pB_2, Nat.add_left_cancel_iff, Nat.add_right_cancel_iff, Nat.add_eq_left, Nat.left_eq_add, true_and, false_and, and_false, and_true, and_self, if_true, if_false, ite_true, ite_false]
  · refine ⟨?_, ?_, ?_⟩
    all_goals simp (decide := true) only [pI_1, pI_2, pL_1, pL_2, pA_1, pA_2, pB_1, pB_2, Nat.add_left_cancel_iff, Nat.add_right_cancel_iff, Nat.add_eq_left, Nat.left_eq_add, true_and, false_and, and_false, and_true, and_self, if_true, if_false, ite_true, ite_false, c0, c9, cp0 hj]
  · refine ⟨?_, ?_, ?_, ?_, ?_⟩
    all_goals simp (decide := true) only [pI_1, pI_2, pL_1, pL_2, pA_1, pA_2, pB_1, pB_2, Nat.add_left_cancel_iff, Nat.add_right_cancel_iff, Nat.add_eq_left, Nat.left_eq_add, true_and, false_and, and_false, and_true, and_self, if_true, if_false, ite_true, ite_false, c0, c9, c14, cp0 he]
  · simp (decide := true) only [pI_1, pI_2, pL_1, pL_2, pA_1, pA_2, pB_1, pB_2, Nat.add_left_cancel_iff, Nat.add_right_cancel_iff, Nat.add_eq_left, Nat.left_eq_add, true_and, false_and, and_false, and_true, and_self, if_true, if_false, ite_true, ite_false, c0, c9, c14, c84, cp0 hk]

set_option maxRecDepth 100000 in
set_option maxHeartbeats 4000000 in
theorem k_copy_15_3 (h : PH) : Con mX2_copyFrom 1 [.ref 15, .ref 3] h (fun x h' => x = none ∧ CPN 15 3 h h') := by
  refine Con.mk (by decide) ?_
  show RT _ _ 0 [some (.ref 15), some (.ref 3)] [] _ _
  refine r_aload_0 dX2_copyFrom_0 ?_
  refine r_aload_1 dX2_copyFrom_1 ?_
  refine r_getI dX2_copyFrom_2 fl_X2_40 rfl ?_
  refine r_putI dX2_copyFrom_5 fl_X2_40 rfl rfl rfl ?_
  refine r_aload_0 dX2_copyFrom_8 ?_
  refine r_aload_1 dX2_copyFrom_9 ?_
  refine r_getI dX2_copyFrom_10 fl_X2_44 rfl ?_
  refine r_putI dX2_copyFrom_13 fl_X2_44 rfl rfl rfl ?_
  refine r_aload_0 dX2_copyFrom_16 ?_
  refine r_aload_1 dX2_copyFrom_17 ?_
  refine r_getI dX2_copyFrom_18 fl_X2_47 rfl ?_
  refine r_putI dX2_copyFrom_21 fl_X2_47 rfl rfl rfl ?_
  refine r_aload_0 dX2_copyFrom_24 ?_
  refine r_aload_1 dX2_copyFrom_25 ?_
  refine r_getI dX2_copyFrom_26 fl_X2_50 rfl ?_
  refine r_putI dX2_copyFrom_29 fl_X2_50 rfl rfl rfl ?_
  refine r_aload_1 dX2_copyFrom_32 ?_
  refine r_getR (a := 4) dX2_copyFrom_33 fl_X2_9 rfl rfl ?_
  refine r_iconst (v := 0) dX2_copyFrom_36 (by decide) ?_
  refine r_aload_0 dX2_copyFrom_37 ?_
  refine r_getR (a := 16) dX2_copyFrom_38 fl_X2_9 rfl rfl ?_
  refine r_iconst (v := 0) dX2_copyFrom_41 (by decide) ?_
  refine r_bipush (v := 9) dX2_copyFrom_42 (by decide) ?_
  refine r_copyL dX2_copyFrom_44 ml_X2_53 mo_copy rfl rfl (by decide) (by decide) ?_
  refine r_aload_1 dX2_copyFrom_47 ?_
  refine r_getR (a := 5) dX2_copyFrom_48 fl_X2_15 rfl rfl ?_
  refine r_iconst (v := 0) dX2_copyFrom_51 (by decide) ?_
  refine r_aload_0 dX2_copyFrom_52 ?_
  refine r_getR (a := 17) dX2_copyFrom_53 fl_X2_15 rfl rfl ?_
  refine r_iconst (v := 0) dX2_copyFrom_56 (by decide) ?_
  refine r_bipush (v := 9) dX2_copyFrom_57 (by decide) ?_
  refine r_copyI dX2_copyFrom_59 ml_X2_53 mo_copy rfl rfl (by decide) (by decide) ?_
  refine r_aload_1 dX2_copyFrom_62 ?_
  refine r_getR (a := 6) dX2_copyFrom_63 fl_X2_19 rfl rfl ?_
  refine r_iconst (v := 0) dX2_copyFrom_66 (by decide) ?_
  refine r_aload_0 dX2_copyFrom_67 ?_
  refine r_getR (a := 18) dX2_copyFrom_68 fl_X2_19 rfl rfl ?_
  refine r_iconst (v := 0) dX2_copyFrom_71 (by decide) ?_
  refine r_bipush (v := 9) dX2_copyFrom_72 (by decide) ?_
  refine r_copyI dX2_copyFrom_74 ml_X2_53 mo_copy rfl rfl (by decide) (by decide) ?_
  refine r_aload_1 dX2_copyFrom_77 ?_
  refine r_getR (a := 7) dX2_copyFrom_78 fl_X2_22 rfl rfl ?_
  refine r_iconst (v := 0) dX2_copyFrom_81 (by decide) ?_
  refine r_aload_0 dX2_copyFrom_82 ?_
  refine r_getR (a := 19) dX2_copyFrom_83 fl_X2_22 rfl rfl ?_
  refine r_iconst (v := 0) dX2_copyFrom_86 (by decide) ?_
  refine r_bipush (v := 14) dX2_copyFrom_87 (by decide) ?_
  refine r_copyI dX2_copyFrom_89 ml_X2_53 mo_copy rfl rfl (by decide) (by decide) ?_
  refine r_aload_1 dX2_copyFrom_92 ?_
  refine r_getR (a := 8) dX2_copyFrom_93 fl_X2_25 rfl rfl ?_
  refine r_iconst (v := 0) dX2_copyFrom_96 (by decide) ?_
  refine r_aload_0 dX2_copyFrom_97 ?_
  refine r_getR (a := 20) dX2_copyFrom_98 fl_X2_25 rfl rfl ?_
  refine r_iconst (v := 0) dX2_copyFrom_101 (by decide) ?_
  refine r_bipush (v := 14) dX2_copyFrom_102 (by decide) ?_
  refine r_copyI dX2_copyFrom_104 ml_X2_53 mo_copy rfl rfl (by decide) (by decide) ?_
  refine r_aload_1 dX2_copyFrom_107 ?_
  refine r_getR (a := 9) dX2_copyFrom_108 fl_X2_28 rfl rfl ?_
  refine r_iconst (v := 0) dX2_copyFrom_111 (by decide) ?_
  refine r_aload_0 dX2_copyFrom_112 ?_
  refine r_getR (a := 21) dX2_copyFrom_113 fl_X2_28 rfl rfl ?_
  refine r_iconst (v := 0) dX2_copyFrom_116 (by decide) ?_
  refine r_bipush (v := 14) dX2_copyFrom_117 (by decide) ?_
  refine r_copyI dX2_copyFrom_119 ml_X2_53 mo_copy rfl rfl (by decide) (by decide) ?_
  refine r_aload_1 dX2_copyFrom_122 ?_
  refine r_getR (a := 10) dX2_copyFrom_123 fl_X2_31 rfl rfl ?_
  refine r_iconst (v := 0) dX2_copyFrom_126 (by decide) ?_
  refine r_aload_0 dX2_copyFrom_127 ?_
  refine r_getR (a := 22) dX2_copyFrom_128 fl_X2_31 rfl rfl ?_
  refine r_iconst (v := 0) dX2_copyFrom_131 (by decide) ?_
  refine r_bipush (v := 14) dX2_copyFrom_132 (by decide) ?_
  refine r_copyI dX2_copyFrom_134 ml_X2_53 mo_copy rfl rfl (by decide) (by decide) ?_
  refine r_aload_1 dX2_copyFrom_137 ?_
  refine r_getR (a := 11) dX2_copyFrom_138 fl_X2_34 rfl rfl ?_
  refine r_iconst (v := 0) dX2_copyFrom_141 (by decide) ?_
  refine r_aload_0 dX2_copyFrom_142 ?_
  refine r_getR (a := 23) dX2_copyFrom_143 fl_X2_34 rfl rfl ?_
  refine r_iconst (v := 0) dX2_copyFrom_146 (by decide) ?_
  refine r_bipush (v := 14) dX2_copyFrom_147 (by decide) ?_
  refine r_copyI dX2_copyFrom_149 ml_X2_53 mo_copy rfl rfl (by decide) (by decide) ?_
  refine r_aload_1 dX2_copyFrom_152 ?_
  refine r_getR (a := 12) dX2_copyFrom_153 fl_X2_37 rfl rfl ?_
  refine r_iconst (v := 0) dX2_copyFrom_156 (by decide) ?_
  refine r_aload_0 dX2_copyFrom_157 ?_
  refine r_getR (a := 24) dX2_copyFrom_158 fl_X2_37 rfl rfl ?_
  refine r_iconst (v := 0) dX2_copyFrom_161 (by decide) ?_
  refine r_bipush (v := 84) dX2_copyFrom_162 (by decide) ?_
  refine r_copyI dX2_copyFrom_164 ml_X2_53 mo_copy rfl rfl (by decide) (by decide) ?_
  refine r_vret dX2_copyFrom_167 rfl ?_
  refine ⟨rfl, fun k hk => ?_, fun j hj => ?_, fun e he => ?_, fun k hk => ?_, (((((((((((((Fr.rf.pI ⟨by omega, by omega⟩).pI ⟨by omega, by omega⟩).pI ⟨by omega, by omega⟩).pI ⟨by omega, by omega⟩).pB ⟨by omega, by omega⟩).pA ⟨by omega, by omega⟩).pA ⟨by omega, by omega⟩).pA ⟨by omega, by omega⟩).pA ⟨by omega, by omega⟩).pA ⟨by omega, by omega⟩).pA ⟨by omega, by omega⟩).pA ⟨by omega, by omega⟩).pA ⟨by omega, by omega⟩)⟩
  · have hk4 : k = 0 ∨ k = 1 ∨ k = 2 ∨ k = 3 := by omega
    rcases hk4 with rfl | rfl | rfl | rfl
    all_goals simp (decide := true) only [pI_1, pI_2, pL_1, pL_2, pA_1, pA_2, pB_1, pB_2, Nat.add_left_cancel_iff, Nat.add_right_cancel_iff, Nat.add_eq_left, Nat.left_eq_add, true_and, false_and, and_false, and_true, and_self, if_true, if_false, ite_true, ite_false]
  · refine ⟨?_, ?_, ?_⟩
    all_goals simp (decide := true) only [pI_1, pI_2, pL_1, pL_2, pA_1, pA_2, pB_1, pB_2, Nat.add_left_cancel_iff, Nat.add_right_cancel_iff, Nat.add_eq_left, Nat.left_eq_add, true_and, false_and, and_false, and_true, and_self, if_true, if_false, ite_true, ite_false, c0, c9, cp0 hj]
  · refine ⟨?_, ?_, ?_, ?_, ?_⟩
    all_goals simp (decide := true) only [pI_1, pI_2, pL_1, pL_2, pA_1, pA_2, pB_1, pB_2, Nat.add_left_cancel_iff, Nat.add_right_cancel_iff, Nat.add_eq_left, Nat.left_eq_add, true_and, false_and, and_false, and_true, and_self, if_true, if_false, ite_true, ite_false, c0, c9, c14, cp0 he]
  · simp (decide := true) only [pI_1, pI_2, pL_1, pL_2, pA_1, pA_2, pB_1, pB_2, Nat.add_left_cancel_iff, Nat.add_right_cancel_iff, Nat.add_eq_left, Nat.left_eq_add, true_and, false_and, and_false, and_true, and_self, if_true, if_false, ite_true, ite_false, c0, c9, c14, c84, cp0 hk]

