/-! ===== the class: Tree.spreadFrom, plant ===== -/
theorem nI_ne_m1 {n : Nat} (h : n < 2 ^ 31) : ¬ nI n = -1 := by
  intro q
  have := congrArg Int32.toInt q
  rw [nI_toInt h, show (-1 : Int32).toInt = -1 by decide +kernel] at this
  omega
theorem tn_apart {a o : Nat} (hT : isT a) (hN : isN o) {i j : Nat} (hi : i < 6) (hj : j < 10) : ¬ o + j = a + i := by
  rcases hT with rfl | rfl <;> rcases hN with rfl | rfl | rfl <;> omega
theorem tn_apart0 {a o : Nat} (hT : isT a) (hN : isN o) {j : Nat} (hj : j < 10) : ¬ o + j = a := tn_apart hT hN (i := 0) (by omega) hj
def rgT (a : Nat) : Nat → Prop := fun y => a ≤ y ∧ y < a + 6
theorem tn_rg {a o : Nat} (hT : isT a) (hN : isN o) (j : Nat) (hj : j < 10) : ¬ rgT a (o + j) := by
  intro q
  obtain ⟨i, hi⟩ : ∃ i, o + j = a + i := ⟨o + j - a, by have := q.1; omega⟩
  exact tn_apart hT hN (i := i) (by have := q.2; omega) hj hi
theorem rgT_i {a i : Nat} (h : i < 6) : rgT a (a + i) := ⟨by omega, by omega⟩
theorem rgT_0 {a : Nat} : rgT a a := ⟨by omega, by omega⟩
set_option maxRecDepth 100000 in
set_option maxHeartbeats 4000000 in
theorem spread_loop {a o : Nat} (hT : isT a) (hN : isN o) {t : NT} (ok : okT t) (bits : Int32) {op : Nat → Bool} (hop : ∀ e, e < NT.E t → bt bits e = op e) (k : Nat) (h0 : PH) : ∀ (m e : Nat) (s : TS) (h : PH), e + m = NT.E t → NetC h o t → TreeC h a (NT.fi t) (NT.se t) s → TW (NT.E t) (NT.fi t) (NT.se t) op s → k < s.1 → Fr (rgT a) h0 h → RT mX5_spreadFrom 2 3 [some (.ref a), some (.int (nI (s.2.1 k))), some (.ref o), some (.int bits), some (.int (nI e)), none] [] h (fun r h' => r = none ∧ TreeC h' a (NT.fi t) (NT.se t) (spr (NT.fi t) (NT.se t) op (s.2.1 k) m e s) ∧ Fr (rgT a) h0 h') := by
  have hE14 := ok.2.2.1
  have hj9 := ok.2.1
  intro m
  induction m with
  | zero =>
    intro e s h hm nc tc tw hk fr
    refine r_iload_4 dX5_spreadFrom_3 ?_
    refine r_aload_2 dX5_spreadFrom_5 ?_
    refine r_getI dX5_spreadFrom_6 fl_X5_47 (hN.s 0 (by decide)) ?_
    rw [nc.2.1]
    refine r_icmpN_ge 170 dX5_spreadFrom_9 (by decide) (by omega) (by omega) (fun c_9 => ?_) (fun c_9 => by omega)
    refine r_vret dX5_spreadFrom_170 rfl ?_
    exact ⟨rfl, tc, fr⟩
  | succ m ih =>
    intro e s h hm nc tc tw hk fr
    have he : e < NT.E t := by omega
    have hx9 : s.2.1 k < 9 := (tw.1 k hk).1
    have hsp : spr (NT.fi t) (NT.se t) op (s.2.1 k) (m + 1) e s = spr (NT.fi t) (NT.se t) op (s.2.1 k) m (e + 1) (spr1 (NT.fi t) (NT.se t) op (s.2.1 k) e s) := rfl
    rw [hsp]
    obtain ⟨n1, n2, n3, n4, n5, n6⟩ := nc.2.2.2.2.2 e he
    obtain ⟨ee1, ee2, ee3⟩ := ok.ends e he
    by_cases hA : op e = true
    · by_cases hB : NT.fi t e = s.2.1 k ∨ NT.se t e = s.2.1 k
      · have hto : oth (NT.fi t) (NT.se t) e (s.2.1 k) < 9 := by have := ok.ends e he; unfold oth; split <;> omega
        by_cases hC : s.2.2.2 (oth (NT.fi t) (NT.se t) e (s.2.1 k)) = true
        · have hs1 : spr1 (NT.fi t) (NT.se t) op (s.2.1 k) e s = s := if_neg (fun q => by rw [hC] at q; exact absurd q.2.2 (by decide))
          refine r_iload_4 dX5_spreadFrom_3 ?_
          refine r_aload_2 dX5_spreadFrom_5 ?_
          refine r_getI dX5_spreadFrom_6 fl_X5_47 (hN.s 0 (by decide)) ?_
          rw [nc.2.1]
          refine r_icmpN_ge 170 dX5_spreadFrom_9 (by decide) (by omega) (by omega) (fun c_9 => by omega) (fun c_9 => ?_)
          refine r_iload_3 dX5_spreadFrom_12 ?_
          refine r_iload_4 dX5_spreadFrom_13 ?_
          refine r_cSN2 mX7_bit dX5_spreadFrom_15 ml_X5_50 mo_X7_bit (k_bit _ bits (j := e) (by omega)) (by decide) ?_
          rw [b2i_t (by rw [hop e he]; exact hA)]
          refine r_if_ne 25 dX5_spreadFrom_18 (by decide) (fun c_18 => ?_) (fun c_18 => by exact absurd c_18 (by decide))
          refine r_aload_2 dX5_spreadFrom_25 ?_
          refine r_iload_4 dX5_spreadFrom_26 ?_
          refine r_iload_1 dX5_spreadFrom_28 ?_
          refine r_cV2 mX2_otherEnd dX5_spreadFrom_29 ml_X5_54 mo_X2_otherEnd (hN.s 0 (by decide)) (k_X2_otherEnd hN ok nc he hx9) (by decide) ?_
          rw [if_pos hB]
          refine r_istore_5 dX5_spreadFrom_32 ?_
          refine r_iload_5 dX5_spreadFrom_34 ?_
          refine r_iconst (v := (-1)) dX5_spreadFrom_36 (by decide) ?_
          refine r_icmp_eq 164 dX5_spreadFrom_37 (by decide) (fun c_37 => by exact absurd c_37 (nI_ne_m1 (by omega))) (fun c_37 => ?_)
          refine r_aload_0 dX5_spreadFrom_40 ?_
          refine r_getI dX5_spreadFrom_41 fl_X5_33 (hT.s 0 (by decide)) ?_
          refine r_iload_5 dX5_spreadFrom_44 ?_
          refine r_cSN2 mX7_bit dX5_spreadFrom_46 ml_X5_50 mo_X7_bit (k_bit _ _ (j := oth (NT.fi t) (NT.se t) e (s.2.1 k)) (by omega)) (by decide) ?_
          rw [b2i_t (by rw [tc.1 _ (by omega)]; exact hC)]
          refine r_if_ne 164 dX5_spreadFrom_49 (by decide) (fun c_49 => ?_) (fun c_49 => by exact absurd c_49 (by decide))
          refine r_iincN_4 dX5_spreadFrom_164 ?_
          refine r_goto 3 dX5_spreadFrom_167 (by decide) ?_
          refine RT.sub (lv' := [some (.ref a), some (.int (nI (s.2.1 k))), some (.ref o), some (.int bits), some (.int (nI (e + 1))), none]) (by simp [lsub]) ?_
          rw [hs1]; exact ih (e + 1) s h (by omega) nc tc tw hk fr
        · have hC' : s.2.2.2 (oth (NT.fi t) (NT.se t) e (s.2.1 k)) = false := by simpa using hC
          have hc9 : s.1 + 1 ≤ 9 := by
            have := (tw.step (e := e) (k := k) ok.ends he hk).le
            unfold spr1 at this
            rw [if_pos ⟨hB, hA, hC'⟩] at this
            exact this
          refine r_iload_4 dX5_spreadFrom_3 ?_
          refine r_aload_2 dX5_spreadFrom_5 ?_
          refine r_getI dX5_spreadFrom_6 fl_X5_47 (hN.s 0 (by decide)) ?_
          rw [nc.2.1]
          refine r_icmpN_ge 170 dX5_spreadFrom_9 (by decide) (by omega) (by omega) (fun c_9 => by omega) (fun c_9 => ?_)
          refine r_iload_3 dX5_spreadFrom_12 ?_
          refine r_iload_4 dX5_spreadFrom_13 ?_
          refine r_cSN2 mX7_bit dX5_spreadFrom_15 ml_X5_50 mo_X7_bit (k_bit _ bits (j := e) (by omega)) (by decide) ?_
          rw [b2i_t (by rw [hop e he]; exact hA)]
          refine r_if_ne 25 dX5_spreadFrom_18 (by decide) (fun c_18 => ?_) (fun c_18 => by exact absurd c_18 (by decide))
          refine r_aload_2 dX5_spreadFrom_25 ?_
          refine r_iload_4 dX5_spreadFrom_26 ?_
          refine r_iload_1 dX5_spreadFrom_28 ?_
          refine r_cV2 mX2_otherEnd dX5_spreadFrom_29 ml_X5_54 mo_X2_otherEnd (hN.s 0 (by decide)) (k_X2_otherEnd hN ok nc he hx9) (by decide) ?_
          rw [if_pos hB]
          refine r_istore_5 dX5_spreadFrom_32 ?_
          refine r_iload_5 dX5_spreadFrom_34 ?_
          refine r_iconst (v := (-1)) dX5_spreadFrom_36 (by decide) ?_
          refine r_icmp_eq 164 dX5_spreadFrom_37 (by decide) (fun c_37 => by exact absurd c_37 (nI_ne_m1 (by omega))) (fun c_37 => ?_)
          refine r_aload_0 dX5_spreadFrom_40 ?_
          refine r_getI dX5_spreadFrom_41 fl_X5_33 (hT.s 0 (by decide)) ?_
          refine r_iload_5 dX5_spreadFrom_44 ?_
          refine r_cSN2 mX7_bit dX5_spreadFrom_46 ml_X5_50 mo_X7_bit (k_bit _ _ (j := oth (NT.fi t) (NT.se t) e (s.2.1 k)) (by omega)) (by decide) ?_
          rw [b2i_f (by rw [tc.1 _ (by omega), hC']; decide)]
          refine r_if_ne 164 dX5_spreadFrom_49 (by decide) (fun c_49 => by exact absurd rfl c_49) (fun c_49 => ?_)
          refine r_aload_0 dX5_spreadFrom_52 ?_
          refine r_getI dX5_spreadFrom_53 fl_X5_40 (hT.s 0 (by decide)) ?_
          rw [tc.2.2.1]
          refine r_bipush (v := nI 9) dX5_spreadFrom_56 (by decide) ?_
          refine r_icmpN_ge 164 dX5_spreadFrom_58 (by decide) (by omega) (by omega) (fun c_58 => by omega) (fun c_58 => ?_)
          refine r_aload_0 dX5_spreadFrom_61 ?_
          refine r_dupr dX5_spreadFrom_62 ?_
          refine r_getI dX5_spreadFrom_63 fl_X5_33 (hT.s 0 (by decide)) ?_
          refine r_iconst (v := 1) dX5_spreadFrom_66 (by decide) ?_
          refine r_iload_5 dX5_spreadFrom_67 ?_
          refine r_ishl dX5_spreadFrom_69 ?_
          refine r_ior dX5_spreadFrom_70 ?_
          refine r_putI dX5_spreadFrom_71 fl_X5_33 (hT.s 0 (by decide)) rfl rfl ?_
          refine r_aload_0 dX5_spreadFrom_74 ?_
          refine r_dupr dX5_spreadFrom_75 ?_
          refine r_getI dX5_spreadFrom_76 fl_X5_37 (hT.s 0 (by decide)) ?_
          refine r_iconst (v := 1) dX5_spreadFrom_79 (by decide) ?_
          refine r_iload_4 dX5_spreadFrom_80 ?_
          refine r_ishl dX5_spreadFrom_82 ?_
          refine r_ior dX5_spreadFrom_83 ?_
          refine r_putI dX5_spreadFrom_84 fl_X5_37 (hT.s 0 (by decide)) rfl rfl ?_
          refine r_aload_0 dX5_spreadFrom_87 ?_
          refine r_getR (a := (a + 2)) dX5_spreadFrom_88 fl_X5_15 (hT.s 0 (by decide)) rfl ?_
          refine r_iload_5 dX5_spreadFrom_91 ?_
          refine r_iload_1 dX5_spreadFrom_93 ?_
          refine r_iastN dX5_spreadFrom_94 (hT.s 2 (by decide)) (by omega) ?_
          refine r_aload_0 dX5_spreadFrom_95 ?_
          refine r_getR (a := (a + 3)) dX5_spreadFrom_96 fl_X5_18 (hT.s 0 (by decide)) rfl ?_
          refine r_iload_5 dX5_spreadFrom_99 ?_
          refine r_iload_4 dX5_spreadFrom_101 ?_
          refine r_iastN dX5_spreadFrom_103 (hT.s 3 (by decide)) (by omega) ?_
          refine r_aload_0 dX5_spreadFrom_104 ?_
          refine r_getR (a := (a + 4)) dX5_spreadFrom_105 fl_X5_21 (hT.s 0 (by decide)) rfl ?_
          refine r_iload_5 dX5_spreadFrom_108 ?_
          refine r_aload_2 dX5_spreadFrom_110 ?_
          refine r_getR (a := (o + 5)) dX5_spreadFrom_111 fl_X5_57 (hN.s 0 (by decide)) rfl ?_
          refine r_iload_4 dX5_spreadFrom_114 ?_
          refine r_ialdN dX5_spreadFrom_116 (hN.s 5 (by decide)) (by omega) ?_
          simp (decide := true) only [pI_1, pI_2, pL_1, pL_2, pA_1, pA_2, pB_1, pB_2, Nat.add_left_cancel_iff, Nat.add_right_cancel_iff, Nat.add_eq_left, Nat.left_eq_add, true_and, false_and, and_false, and_true, and_self, if_true, if_false, ite_true, ite_false, tn_apart0 hT hN (show 5 < 10 by omega), tn_apart hT hN (show 2 < 6 by omega) (show 5 < 10 by omega), tn_apart hT hN (show 3 < 6 by omega) (show 5 < 10 by omega)]
          rw [n2]
          refine r_iload_5 dX5_spreadFrom_117 ?_
          refine r_icmpN_ne 126 dX5_spreadFrom_119 (by decide) (by omega) (by omega) (fun c_119 => ?_) (fun c_119 => ?_)
          · refine r_iconst (v := (-1)) dX5_spreadFrom_126 (by decide) ?_
            refine r_iastN dX5_spreadFrom_127 (hT.s 4 (by decide)) (by omega) ?_
            refine r_aload_0 dX5_spreadFrom_128 ?_
            refine r_getR (a := (a + 5)) dX5_spreadFrom_129 fl_X5_24 (hT.s 0 (by decide)) rfl ?_
            refine r_iload_5 dX5_spreadFrom_132 ?_
            refine r_aload_0 dX5_spreadFrom_134 ?_
            refine r_getR (a := (a + 5)) dX5_spreadFrom_135 fl_X5_24 (hT.s 0 (by decide)) rfl ?_
            refine r_iload_1 dX5_spreadFrom_138 ?_
            refine r_ialdN dX5_spreadFrom_139 (hT.s 5 (by decide)) (by omega) ?_
            refine r_iconst (v := 1) dX5_spreadFrom_140 (by decide) ?_
            refine r_iadd dX5_spreadFrom_141 ?_
            refine r_iastN dX5_spreadFrom_142 (hT.s 5 (by decide)) (by omega) ?_
            refine r_aload_0 dX5_spreadFrom_143 ?_
            refine r_getR (a := (a + 1)) dX5_spreadFrom_144 fl_X5_9 (hT.s 0 (by decide)) rfl ?_
            refine r_aload_0 dX5_spreadFrom_147 ?_
            refine r_getI dX5_spreadFrom_148 fl_X5_40 (hT.s 0 (by decide)) ?_
            simp (decide := true) only [pI_1, pI_2, pL_1, pL_2, pA_1, pA_2, pB_1, pB_2, Nat.add_left_cancel_iff, Nat.add_right_cancel_iff, Nat.add_eq_left, Nat.left_eq_add, true_and, false_and, and_false, and_true, and_self, if_true, if_false, ite_true, ite_false]
            rw [tc.2.2.1]
            refine r_iload_5 dX5_spreadFrom_151 ?_
            refine r_iastN dX5_spreadFrom_153 (hT.s 1 (by decide)) (by omega) ?_
            refine r_aload_0 dX5_spreadFrom_154 ?_
            refine r_dupr dX5_spreadFrom_155 ?_
            refine r_getI dX5_spreadFrom_156 fl_X5_40 (hT.s 0 (by decide)) ?_
            refine r_iconst (v := 1) dX5_spreadFrom_159 (by decide) ?_
            refine r_iadd dX5_spreadFrom_160 ?_
            refine r_putI dX5_spreadFrom_161 fl_X5_40 (hT.s 0 (by decide)) rfl rfl ?_
            refine r_iincN_4 dX5_spreadFrom_164 ?_
            refine r_goto 3 dX5_spreadFrom_167 (by decide) ?_
            refine RT.sub (lv' := [some (.ref a), some (.int (nI (s.2.1 k))), some (.ref o), some (.int bits), some (.int (nI (e + 1))), none]) (by simp [lsub]) ?_
            have hg1 : (spr1 (NT.fi t) (NT.se t) op (s.2.1 k) e s).2.1 k = s.2.1 k := (TG.step _ _ _ _ _ _).2.1 k hk
            have ih' := ih (e + 1) (spr1 (NT.fi t) (NT.se t) op (s.2.1 k) e s)
            rw [hg1] at ih'
            refine ih' _ (by omega) (nc.fr (S := rgT a) ((((((((Fr.rf.pI rgT_0).pI rgT_0).pI (rgT_i (by omega))).pI (rgT_i (by omega))).pI (rgT_i (by omega))).pI (rgT_i (by omega))).pI (rgT_i (by omega))).pI rgT_0) (tn_rg hT hN)) ?_ (tw.step ok.ends he hk) (Nat.lt_of_lt_of_le hk (TG.step _ _ _ _ _ _).1) ((((((((fr.pI rgT_0).pI rgT_0).pI (rgT_i (by omega))).pI (rgT_i (by omega))).pI (rgT_i (by omega))).pI (rgT_i (by omega))).pI (rgT_i (by omega))).pI rgT_0)
            refine TreeC.push tw ok.ends hE14 tc he hk ⟨hB, hA, hC'⟩ ?_ ?_ ?_ (fun j => ?_) (fun j => ?_) (fun j => ?_) (fun j => ?_) (fun j => ?_)
            all_goals simp (decide := true) only [pI_1, pI_2, pL_1, pL_2, pA_1, pA_2, pB_1, pB_2, Nat.add_left_cancel_iff, Nat.add_right_cancel_iff, Nat.add_eq_left, Nat.left_eq_add, true_and, false_and, and_false, and_true, and_self, if_true, if_false, ite_true, ite_false]
            all_goals first | rfl | (rw [tc.2.2.1, nI_1]; done) | (simp [c_119]; done) | (simp; done)
          · refine r_iconst (v := 1) dX5_spreadFrom_122 (by decide) ?_
            refine r_goto 127 dX5_spreadFrom_123 (by decide) ?_
            refine r_iastN dX5_spreadFrom_127 (hT.s 4 (by decide)) (by omega) ?_
            refine r_aload_0 dX5_spreadFrom_128 ?_
            refine r_getR (a := (a + 5)) dX5_spreadFrom_129 fl_X5_24 (hT.s 0 (by decide)) rfl ?_
            refine r_iload_5 dX5_spreadFrom_132 ?_
            refine r_aload_0 dX5_spreadFrom_134 ?_
            refine r_getR (a := (a + 5)) dX5_spreadFrom_135 fl_X5_24 (hT.s 0 (by decide)) rfl ?_
            refine r_iload_1 dX5_spreadFrom_138 ?_
            refine r_ialdN dX5_spreadFrom_139 (hT.s 5 (by decide)) (by omega) ?_
            refine r_iconst (v := 1) dX5_spreadFrom_140 (by decide) ?_
            refine r_iadd dX5_spreadFrom_141 ?_
            refine r_iastN dX5_spreadFrom_142 (hT.s 5 (by decide)) (by omega) ?_
            refine r_aload_0 dX5_spreadFrom_143 ?_
            refine r_getR (a := (a + 1)) dX5_spreadFrom_144 fl_X5_9 (hT.s 0 (by decide)) rfl ?_
            refine r_aload_0 dX5_spreadFrom_147 ?_
            refine r_getI dX5_spreadFrom_148 fl_X5_40 (hT.s 0 (by decide)) ?_
            simp (decide := true) only [pI_1, pI_2, pL_1, pL_2, pA_1, pA_2, pB_1, pB_2, Nat.add_left_cancel_iff, Nat.add_right_cancel_iff, Nat.add_eq_left, Nat.left_eq_add, true_and, false_and, and_false, and_true, and_self, if_true, if_false, ite_true, ite_false]
            rw [tc.2.2.1]
            refine r_iload_5 dX5_spreadFrom_151 ?_
            refine r_iastN dX5_spreadFrom_153 (hT.s 1 (by decide)) (by omega) ?_
            refine r_aload_0 dX5_spreadFrom_154 ?_
            refine r_dupr dX5_spreadFrom_155 ?_
            refine r_getI dX5_spreadFrom_156 fl_X5_40 (hT.s 0 (by decide)) ?_
            refine r_iconst (v := 1) dX5_spreadFrom_159 (by decide) ?_
            refine r_iadd dX5_spreadFrom_160 ?_
            refine r_putI dX5_spreadFrom_161 fl_X5_40 (hT.s 0 (by decide)) rfl rfl ?_
            refine r_iincN_4 dX5_spreadFrom_164 ?_
            refine r_goto 3 dX5_spreadFrom_167 (by decide) ?_
            refine RT.sub (lv' := [some (.ref a), some (.int (nI (s.2.1 k))), some (.ref o), some (.int bits), some (.int (nI (e + 1))), none]) (by simp [lsub]) ?_
            have hg1 : (spr1 (NT.fi t) (NT.se t) op (s.2.1 k) e s).2.1 k = s.2.1 k := (TG.step _ _ _ _ _ _).2.1 k hk
            have ih' := ih (e + 1) (spr1 (NT.fi t) (NT.se t) op (s.2.1 k) e s)
            rw [hg1] at ih'
            refine ih' _ (by omega) (nc.fr (S := rgT a) ((((((((Fr.rf.pI rgT_0).pI rgT_0).pI (rgT_i (by omega))).pI (rgT_i (by omega))).pI (rgT_i (by omega))).pI (rgT_i (by omega))).pI (rgT_i (by omega))).pI rgT_0) (tn_rg hT hN)) ?_ (tw.step ok.ends he hk) (Nat.lt_of_lt_of_le hk (TG.step _ _ _ _ _ _).1) ((((((((fr.pI rgT_0).pI rgT_0).pI (rgT_i (by omega))).pI (rgT_i (by omega))).pI (rgT_i (by omega))).pI (rgT_i (by omega))).pI (rgT_i (by omega))).pI rgT_0)
            refine TreeC.push tw ok.ends hE14 tc he hk ⟨hB, hA, hC'⟩ ?_ ?_ ?_ (fun j => ?_) (fun j => ?_) (fun j => ?_) (fun j => ?_) (fun j => ?_)
            all_goals simp (decide := true) only [pI_1, pI_2, pL_1, pL_2, pA_1, pA_2, pB_1, pB_2, Nat.add_left_cancel_iff, Nat.add_right_cancel_iff, Nat.add_eq_left, Nat.left_eq_add, true_and, false_and, and_false, and_true, and_self, if_true, if_false, ite_true, ite_false]
            all_goals first | rfl | (rw [tc.2.2.1, nI_1]; done) | (simp [c_119]; done) | (simp; done)
      · have hs1 : spr1 (NT.fi t) (NT.se t) op (s.2.1 k) e s = s := if_neg (fun q => hB q.1)
        refine r_iload_4 dX5_spreadFrom_3 ?_
        refine r_aload_2 dX5_spreadFrom_5 ?_
        refine r_getI dX5_spreadFrom_6 fl_X5_47 (hN.s 0 (by decide)) ?_
        rw [nc.2.1]
        refine r_icmpN_ge 170 dX5_spreadFrom_9 (by decide) (by omega) (by omega) (fun c_9 => by omega) (fun c_9 => ?_)
        refine r_iload_3 dX5_spreadFrom_12 ?_
        refine r_iload_4 dX5_spreadFrom_13 ?_
        refine r_cSN2 mX7_bit dX5_spreadFrom_15 ml_X5_50 mo_X7_bit (k_bit _ bits (j := e) (by omega)) (by decide) ?_
        rw [b2i_t (by rw [hop e he]; exact hA)]
        refine r_if_ne 25 dX5_spreadFrom_18 (by decide) (fun c_18 => ?_) (fun c_18 => by exact absurd c_18 (by decide))
        refine r_aload_2 dX5_spreadFrom_25 ?_
        refine r_iload_4 dX5_spreadFrom_26 ?_
        refine r_iload_1 dX5_spreadFrom_28 ?_
        refine r_cV2 mX2_otherEnd dX5_spreadFrom_29 ml_X5_54 mo_X2_otherEnd (hN.s 0 (by decide)) (k_X2_otherEnd hN ok nc he hx9) (by decide) ?_
        rw [if_neg hB]
        refine r_istore_5 dX5_spreadFrom_32 ?_
        refine r_iload_5 dX5_spreadFrom_34 ?_
        refine r_iconst (v := (-1)) dX5_spreadFrom_36 (by decide) ?_
        refine r_icmp_eq 164 dX5_spreadFrom_37 (by decide) (fun c_37 => ?_) (fun c_37 => by exact absurd rfl c_37)
        refine r_iincN_4 dX5_spreadFrom_164 ?_
        refine r_goto 3 dX5_spreadFrom_167 (by decide) ?_
        refine RT.sub (lv' := [some (.ref a), some (.int (nI (s.2.1 k))), some (.ref o), some (.int bits), some (.int (nI (e + 1))), none]) (by simp [lsub]) ?_
        rw [hs1]; exact ih (e + 1) s h (by omega) nc tc tw hk fr
    · have hs1 : spr1 (NT.fi t) (NT.se t) op (s.2.1 k) e s = s := if_neg (fun q => hA q.2.1)
      refine r_iload_4 dX5_spreadFrom_3 ?_
      refine r_aload_2 dX5_spreadFrom_5 ?_
      refine r_getI dX5_spreadFrom_6 fl_X5_47 (hN.s 0 (by decide)) ?_
      rw [nc.2.1]
      refine r_icmpN_ge 170 dX5_spreadFrom_9 (by decide) (by omega) (by omega) (fun c_9 => by omega) (fun c_9 => ?_)
      refine r_iload_3 dX5_spreadFrom_12 ?_
      refine r_iload_4 dX5_spreadFrom_13 ?_
      refine r_cSN2 mX7_bit dX5_spreadFrom_15 ml_X5_50 mo_X7_bit (k_bit _ bits (j := e) (by omega)) (by decide) ?_
      rw [b2i_f (by rw [hop e he]; exact hA)]
      refine r_if_ne 25 dX5_spreadFrom_18 (by decide) (fun c_18 => by exact absurd rfl c_18) (fun c_18 => ?_)
      refine r_iconst (v := (-1)) dX5_spreadFrom_21 (by decide) ?_
      refine r_goto 32 dX5_spreadFrom_22 (by decide) ?_
      refine r_istore_5 dX5_spreadFrom_32 ?_
      refine r_iload_5 dX5_spreadFrom_34 ?_
      refine r_iconst (v := (-1)) dX5_spreadFrom_36 (by decide) ?_
      refine r_icmp_eq 164 dX5_spreadFrom_37 (by decide) (fun c_37 => ?_) (fun c_37 => by exact absurd rfl c_37)
      refine r_iincN_4 dX5_spreadFrom_164 ?_
      refine r_goto 3 dX5_spreadFrom_167 (by decide) ?_
      refine RT.sub (lv' := [some (.ref a), some (.int (nI (s.2.1 k))), some (.ref o), some (.int bits), some (.int (nI (e + 1))), none]) (by simp [lsub]) ?_
      rw [hs1]; exact ih (e + 1) s h (by omega) nc tc tw hk fr
set_option maxRecDepth 100000 in
set_option maxHeartbeats 4000000 in
theorem k_spread {a o : Nat} (hT : isT a) (hN : isN o) {t : NT} (ok : okT t) (bits : Int32) {op : Nat → Bool} (hop : ∀ e, e < NT.E t → bt bits e = op e) {k : Nat} {s : TS} {h : PH} (nc : NetC h o t) (tc : TreeC h a (NT.fi t) (NT.se t) s) (tw : TW (NT.E t) (NT.fi t) (NT.se t) op s) (hk : k < s.1) : Con mX5_spreadFrom 2 [.ref a, .int (nI (s.2.1 k)), .ref o, .int bits] h (fun r h' => r = none ∧ (TreeC h' a (NT.fi t) (NT.se t) (spr (NT.fi t) (NT.se t) op (s.2.1 k) (NT.E t) 0 s) ∧ Fr (rgT a) h h')) := by
  refine Con.mk (by decide) ?_
  show RT _ _ 0 [some (.ref a), some (.int (nI (s.2.1 k))), some (.ref o), some (.int bits), none, none] [] _ _
  refine r_iconst (v := nI 0) dX5_spreadFrom_0 (by decide) ?_
  refine r_istore_4 dX5_spreadFrom_1 ?_
  exact spread_loop hT hN ok bits hop k h (NT.E t) 0 s h (by omega) nc tc tw hk Fr.rf

set_option maxRecDepth 100000 in
set_option maxHeartbeats 4000000 in
theorem plant_loop {a o : Nat} (hT : isT a) (hN : isN o) {t : NT} (ok : okT t) (bits : Int32) {op : Nat → Bool} (hop : ∀ e, e < NT.E t → bt bits e = op e) (h0 : PH) : ∀ (n k : Nat) (s : TS) (h : PH), k + n = 9 → NetC h o t → TreeC h a (NT.fi t) (NT.se t) s → TW (NT.E t) (NT.fi t) (NT.se t) op s → Fr (rgT a) h0 h → RT mX5_plant 3 49 [some (.ref a), some (.ref o), some (.int bits), some (.int (nI k))] [] h (fun r h' => r = none ∧ (TreeC h' a (NT.fi t) (NT.se t) (bfs (NT.E t) (NT.fi t) (NT.se t) op n k s) ∧ Fr (rgT a) h0 h')) := by
  intro n
  induction n with
  | zero =>
    intro k s h hk nc tc tw fr
    have h9 := tw.le
    refine r_iload_3 dX5_plant_49 ?_
    refine r_aload_0 dX5_plant_50 ?_
    refine r_getI dX5_plant_51 fl_X5_40 (hT.s 0 (by decide)) ?_
    rw [tc.2.2.1]
    refine r_icmpN_ge 81 dX5_plant_54 (by decide) (by omega) (by omega) (fun c_54 => ?_) (fun c_54 => by omega)
    refine r_vret dX5_plant_81 rfl ?_
    exact ⟨rfl, tc, fr⟩
  | succ n ih =>
    intro k s h hk nc tc tw fr
    have h9 := tw.le
    by_cases hks : k < s.1
    · refine r_iload_3 dX5_plant_49 ?_
      refine r_aload_0 dX5_plant_50 ?_
      refine r_getI dX5_plant_51 fl_X5_40 (hT.s 0 (by decide)) ?_
      rw [tc.2.2.1]
      refine r_icmpN_ge 81 dX5_plant_54 (by decide) (by omega) (by omega) (fun c_54 => by omega) (fun c_54 => ?_)
      refine r_iload_3 dX5_plant_57 ?_
      refine r_bipush (v := nI 9) dX5_plant_58 (by decide) ?_
      refine r_icmpN_ge 81 dX5_plant_60 (by decide) (by omega) (by omega) (fun c_60 => by omega) (fun c_60 => ?_)
      refine r_aload_0 dX5_plant_63 ?_
      refine r_aload_0 dX5_plant_64 ?_
      refine r_getR (a := (a + 1)) dX5_plant_65 fl_X5_9 (hT.s 0 (by decide)) rfl ?_
      refine r_iload_3 dX5_plant_68 ?_
      refine r_ialdN dX5_plant_69 (hT.s 1 (by decide)) (by omega) ?_
      rw [tc.2.2.2.1 k hks]
      refine r_aload_1 dX5_plant_70 ?_
      refine r_iload_2 dX5_plant_71 ?_
      refine r_cWQ3 mX5_spreadFrom dX5_plant_72 ml_X5_43 mo_X5_spreadFrom (hT.s 0 (by decide)) (k_spread hT hN ok bits hop nc tc tw hks) (by decide) (fun h1 p1 => ?_)
      obtain ⟨tc1, f1⟩ := p1
      refine r_iincN_3 dX5_plant_75 ?_
      refine r_goto 49 dX5_plant_78 (by decide) ?_
      have hb : bfs (NT.E t) (NT.fi t) (NT.se t) op (n + 1) k s = bfs (NT.E t) (NT.fi t) (NT.se t) op n (k + 1) (spr (NT.fi t) (NT.se t) op (s.2.1 k) (NT.E t) 0 s) := by rw [bfs, if_pos hks]
      rw [hb]
      exact ih (k + 1) _ _ (by omega) (nc.fr f1 (tn_rg hT hN)) tc1 (spr_all ok.ends (NT.E t) 0 s (by omega) tw hks).1 (fr.tr f1)
    · refine r_iload_3 dX5_plant_49 ?_
      refine r_aload_0 dX5_plant_50 ?_
      refine r_getI dX5_plant_51 fl_X5_40 (hT.s 0 (by decide)) ?_
      rw [tc.2.2.1]
      refine r_icmpN_ge 81 dX5_plant_54 (by decide) (by omega) (by omega) (fun c_54 => ?_) (fun c_54 => by omega)
      refine r_vret dX5_plant_81 rfl ?_
      exact ⟨rfl, by rw [bfs, if_neg hks]; exact tc, fr⟩
set_option maxRecDepth 100000 in
set_option maxHeartbeats 4000000 in
theorem k_plant {a o : Nat} (hT : isT a) (hN : isN o) {t : NT} (ok : okT t) (bits : Int32) {op : Nat → Bool} (hop : ∀ e, e < NT.E t → bt bits e = op e) {h : PH} (nc : NetC h o t) : Con mX5_plant 3 [.ref a, .ref o, .int bits] h (fun r h' => r = none ∧ (TreeC h' a (NT.fi t) (NT.se t) (treeS (NT.E t) (NT.fi t) (NT.se t) op) ∧ Fr (rgT a) h h')) := by
  refine Con.mk (by decide) ?_
  show RT _ _ 0 [some (.ref a), some (.ref o), some (.int bits), none] [] _ _
  refine r_aload_0 dX5_plant_0 ?_
  refine r_getR (a := (a + 3)) dX5_plant_1 fl_X5_18 (hT.s 0 (by decide)) rfl ?_
  refine r_bipush (v := (-2)) dX5_plant_4 (by decide) ?_
  refine r_cT2 mJ7_fill_53178 dX5_plant_6 ml_X5_27 mo_J7_fill_53178 (k_fillI (hT.s 3 (by decide)) _ _) (by decide) ?_
  refine r_aload_0 dX5_plant_9 ?_
  refine r_getR (a := (a + 2)) dX5_plant_10 fl_X5_15 (hT.s 0 (by decide)) rfl ?_
  refine r_iconst (v := 0) dX5_plant_13 (by decide) ?_
  refine r_cT2 mJ7_fill_53178 dX5_plant_14 ml_X5_27 mo_J7_fill_53178 (k_fillI (hT.s 2 (by decide)) _ _) (by decide) ?_
  refine r_aload_0 dX5_plant_17 ?_
  refine r_getR (a := (a + 5)) dX5_plant_18 fl_X5_24 (hT.s 0 (by decide)) rfl ?_
  refine r_iconst (v := 0) dX5_plant_21 (by decide) ?_
  refine r_cT2 mJ7_fill_53178 dX5_plant_22 ml_X5_27 mo_J7_fill_53178 (k_fillI (hT.s 5 (by decide)) _ _) (by decide) ?_
  refine r_aload_0 dX5_plant_25 ?_
  refine r_iconst (v := 1) dX5_plant_26 (by decide) ?_
  refine r_putI dX5_plant_27 fl_X5_33 (hT.s 0 (by decide)) rfl rfl ?_
  refine r_aload_0 dX5_plant_30 ?_
  refine r_iconst (v := 0) dX5_plant_31 (by decide) ?_
  refine r_putI dX5_plant_32 fl_X5_37 (hT.s 0 (by decide)) rfl rfl ?_
  refine r_aload_0 dX5_plant_35 ?_
  refine r_getR (a := (a + 1)) dX5_plant_36 fl_X5_9 (hT.s 0 (by decide)) rfl ?_
  refine r_iconst (v := nI 0) dX5_plant_39 (by decide) ?_
  refine r_iconst (v := 0) dX5_plant_40 (by decide) ?_
  refine r_iastN dX5_plant_41 (hT.s 1 (by decide)) (by omega) ?_
  refine r_aload_0 dX5_plant_42 ?_
  refine r_iconst (v := 1) dX5_plant_43 (by decide) ?_
  refine r_putI dX5_plant_44 fl_X5_40 (hT.s 0 (by decide)) rfl rfl ?_
  refine r_iconst (v := nI 0) dX5_plant_47 (by decide) ?_
  refine r_istore_3 dX5_plant_48 ?_
  refine plant_loop hT hN ok bits hop h 9 0 ts0 _ (by omega) (nc.fr (((((((Fr.rf.pA (rgT_i (by omega))).pA (rgT_i (by omega))).pA (rgT_i (by omega))).pI rgT_0).pI rgT_0).pI (rgT_i (by omega))).pI rgT_0) (tn_rg hT hN)) ?_ (TW0 _ _ _ _) (((((((Fr.rf.pA (rgT_i (by omega))).pA (rgT_i (by omega))).pA (rgT_i (by omega))).pI rgT_0).pI rgT_0).pI (rgT_i (by omega))).pI rgT_0)
  refine ⟨fun i hi => ?_, fun e he => ⟨fun q => ?_, fun q => ?_⟩, ?_, fun k hk => ?_, fun j hj => ?_, fun i h0 hi => ?_, fun i hi => ?_⟩
  · simp (decide := true) only [pI_1, pI_2, pL_1, pL_2, pA_1, pA_2, pB_1, pB_2, Nat.add_left_cancel_iff, Nat.add_right_cancel_iff, Nat.add_eq_left, Nat.left_eq_add, true_and, false_and, and_false, and_true, and_self, if_true, if_false, ite_true, ite_false]
    exact (by decide +kernel : ∀ i, i < 32 → bt (1 : Int32) i = decide (i = 0)) i hi
  · simp (decide := true) only [pI_1, pI_2, pL_1, pL_2, pA_1, pA_2, pB_1, pB_2, Nat.add_left_cancel_iff, Nat.add_right_cancel_iff, Nat.add_eq_left, Nat.left_eq_add, true_and, false_and, and_false, and_true, and_self, if_true, if_false, ite_true, ite_false] at q
    rw [b_0] at q; cases q
  · obtain ⟨i, h0, hi, -⟩ := q
    simp [ts0] at hi; omega
  · simp (decide := true) only [pI_1, pI_2, pL_1, pL_2, pA_1, pA_2, pB_1, pB_2, Nat.add_left_cancel_iff, Nat.add_right_cancel_iff, Nat.add_eq_left, Nat.left_eq_add, true_and, false_and, and_false, and_true, and_self, if_true, if_false, ite_true, ite_false]
    all_goals rfl
  · simp (decide := true) only [pI_1, pI_2, pL_1, pL_2, pA_1, pA_2, pB_1, pB_2, Nat.add_left_cancel_iff, Nat.add_right_cancel_iff, Nat.add_eq_left, Nat.left_eq_add, true_and, false_and, and_false, and_true, and_self, if_true, if_false, ite_true, ite_false]
    have : k = 0 := by simp [ts0] at hk; omega
    subst this; simp [ts0]
    all_goals rfl
  · simp (decide := true) only [pI_1, pI_2, pL_1, pL_2, pA_1, pA_2, pB_1, pB_2, Nat.add_left_cancel_iff, Nat.add_right_cancel_iff, Nat.add_eq_left, Nat.left_eq_add, true_and, false_and, and_false, and_true, and_self, if_true, if_false, ite_true, ite_false]
    simp [ts0, hj]
  · simp [ts0] at hi; omega
  · simp (decide := true) only [pI_1, pI_2, pL_1, pL_2, pA_1, pA_2, pB_1, pB_2, Nat.add_left_cancel_iff, Nat.add_right_cancel_iff, Nat.add_eq_left, Nat.left_eq_add, true_and, false_and, and_false, and_true, and_self, if_true, if_false, ite_true, ite_false]
    simp [ts0, dpj, dep]
    all_goals rfl

