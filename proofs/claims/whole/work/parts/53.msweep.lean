/-! ===== the reference: begins, ringSum, ringSteep, nearest, sweep ===== -/
theorem NetM.ext {h h' : PH} {t : NT} (c : NetM h t) (e : h'.1 = h.1) : NetM h' t := by unfold NetM drE; rw [e]; exact c
theorem TreeM.ex1 {h h' : PH} {s : TS} (c : TreeM h s) (e : h'.1 = h.1) : TreeM h' s := by unfold TreeM; rw [e]; exact c
theorem RAtM.ex1 {h h' : PH} {k : Nat} {L : RG} (c : RAtM h k L) (e : h'.1 = h.1) : RAtM h' k L := by unfold RAtM; rw [e]; exact c
theorem RingsM.ex1 {h h' : PH} {R : List RG} (c : RingsM h R) (e : h'.1 = h.1) : RingsM h' R := by unfold RingsM RAtM; rw [e]; exact c
def beM : Nat → Prop := fun y => y = 87 ∨ y = 93
def BEM (h0 h : PH) : Prop := h.1 = h0.1 ∧ Fr beM h0 h
theorem BEM.rf {h : PH} : BEM h h := ⟨rfl, Fr.rf⟩
theorem BEM.pL {h0 h : PH} {o k : Nat} {x : Int64} (a : BEM h0 h) (ho : beM o) : BEM h0 (pL h o k x) := ⟨a.1, a.2.pL ho⟩
theorem drE_ext {h h' : PH} (e : h'.1 = h.1) (j : Nat) : drE h' j = drE h j := by unfold drE; rw [e]
set_option maxRecDepth 100000 in
set_option maxHeartbeats 4000000 in
theorem mbA {Q : Option Value → PH → Prop} (h0 : PH) (K : ∀ h', (∀ i, i < 14 → h'.2 87 i = 0) → BEM h0 h' → RT mX8_begins 3 21 [some (.ref 74), none, none] [] h' Q) : ∀ (m e : Nat) (h : PH), e + m = 14 → (∀ i, i < e → h.2 87 i = 0) → BEM h0 h → RT mX8_begins 3 2 [some (.ref 74), some (.int (nI e)), none] [] h Q := by
  intro m
  induction m with
  | zero =>
    intro e h he hz be
    have : e = 14 := by omega
    subst this
    refine r_iload_1 dX8_begins_2 ?_
    refine r_bipush (v := nI 14) dX8_begins_3 (by decide) ?_
    refine r_icmpN_ge 21 dX8_begins_5 (by decide) (by omega) (by omega) (fun c_5 => ?_) (fun c_5 => by omega)
    refine RT.sub (lv' := [some (.ref 74), none, none]) (by simp [lsub]) ?_
    exact K h hz be
  | succ m ih =>
    intro e h he hz be
    refine r_iload_1 dX8_begins_2 ?_
    refine r_bipush (v := nI 14) dX8_begins_3 (by decide) ?_
    refine r_icmpN_ge 21 dX8_begins_5 (by decide) (by omega) (by omega) (fun c_5 => by omega) (fun c_5 => ?_)
    refine r_aload_0 dX8_begins_8 ?_
    refine r_getR (a := 87) dX8_begins_9 fl_X8_52 rfl rfl ?_
    refine r_iload_1 dX8_begins_12 ?_
    refine r_lconst (v := 0) dX8_begins_13 (by decide) ?_
    refine r_lastN dX8_begins_14 rfl (by omega) ?_
    refine r_iincN_1 dX8_begins_15 ?_
    refine r_goto 2 dX8_begins_18 (by decide) ?_
    refine ih (e + 1) _ (by omega) (fun i hi => ?_) (be.pL (Or.inl rfl))
    simp (decide := true) only [pI_1, pI_2, pL_1, pL_2, pA_1, pA_2, pB_1, pB_2, Nat.add_left_cancel_iff, Nat.add_right_cancel_iff, Nat.add_eq_left, Nat.left_eq_add, true_and, false_and, and_false, and_true, and_self, if_true, if_false, ite_true, ite_false]
    by_cases q : i = e
    · rw [if_pos q]
    · rw [if_neg q]; exact hz i (by omega)
set_option maxRecDepth 100000 in
set_option maxHeartbeats 4000000 in
theorem mbB {Q : Option Value → PH → Prop} (h0 : PH) (K : ∀ h', (∀ i, i < 14 → h'.2 87 i = 0) → (∀ i, i < 9 → h'.2 93 i = (if 0 < i then (drE h0 i).toInt64 else 0)) → BEM h0 h' → RT mX8_begins 3 55 [some (.ref 74), none, none] [] h' Q) : ∀ (m j : Nat) (h : PH), j + m = 9 → (∀ i, i < 14 → h.2 87 i = 0) → (∀ i, i < j → h.2 93 i = (if 0 < i then (drE h0 i).toInt64 else 0)) → BEM h0 h → RT mX8_begins 3 23 [some (.ref 74), some (.int (nI j)), none] [] h Q := by
  intro m
  induction m with
  | zero =>
    intro j h hj hz hc be
    have : j = 9 := by omega
    subst this
    refine r_iload_1 dX8_begins_23 ?_
    refine r_bipush (v := nI 9) dX8_begins_24 (by decide) ?_
    refine r_icmpN_ge 55 dX8_begins_26 (by decide) (by omega) (by omega) (fun c_26 => ?_) (fun c_26 => by omega)
    refine RT.sub (lv' := [some (.ref 74), none, none]) (by simp [lsub]) ?_
    exact K h hz hc be
  | succ m ih =>
    intro j h hj hz hc be
    by_cases hj0 : 0 < j
    · refine r_iload_1 dX8_begins_23 ?_
      refine r_bipush (v := nI 9) dX8_begins_24 (by decide) ?_
      refine r_icmpN_ge 55 dX8_begins_26 (by decide) (by omega) (by omega) (fun c_26 => by omega) (fun c_26 => ?_)
      refine r_aload_0 dX8_begins_29 ?_
      refine r_getR (a := 93) dX8_begins_30 fl_X8_71 rfl rfl ?_
      refine r_iload_1 dX8_begins_33 ?_
      refine r_iload_1 dX8_begins_34 ?_
      refine r_if_le 47 dX8_begins_35 (by decide) (fun c_35 => by exact absurd c_35 (nI_nle (by omega) (by omega))) (fun c_35 => ?_)
      refine r_aload_0 dX8_begins_38 ?_
      refine r_iload_1 dX8_begins_39 ?_
      refine r_cV1 mX8_drawn dX8_begins_40 ml_X8_298 mo_X8_drawn rfl (q_drawn h (j := j) (by omega)) (by decide) ?_
      refine r_i2l dX8_begins_43 ?_
      refine r_goto 48 dX8_begins_44 (by decide) ?_
      refine r_lastN dX8_begins_48 rfl (by omega) ?_
      refine r_iincN_1 dX8_begins_49 ?_
      refine r_goto 23 dX8_begins_52 (by decide) ?_
      refine ih (j + 1) _ (by omega) (fun i hi => ?_) (fun i hi => ?_) (be.pL (Or.inr rfl))
      · simp (decide := true) only [pI_1, pI_2, pL_1, pL_2, pA_1, pA_2, pB_1, pB_2, Nat.add_left_cancel_iff, Nat.add_right_cancel_iff, Nat.add_eq_left, Nat.left_eq_add, true_and, false_and, and_false, and_true, and_self, if_true, if_false, ite_true, ite_false]
        exact hz i hi
      · simp (decide := true) only [pI_1, pI_2, pL_1, pL_2, pA_1, pA_2, pB_1, pB_2, Nat.add_left_cancel_iff, Nat.add_right_cancel_iff, Nat.add_eq_left, Nat.left_eq_add, true_and, false_and, and_false, and_true, and_self, if_true, if_false, ite_true, ite_false]
        by_cases q : i = j
        · rw [if_pos q, q, if_pos hj0, drE_ext be.1]
        · rw [if_neg q]; exact hc i (by omega)
    · have : j = 0 := by omega
      subst this
      refine r_iload_1 dX8_begins_23 ?_
      refine r_bipush (v := nI 9) dX8_begins_24 (by decide) ?_
      refine r_icmpN_ge 55 dX8_begins_26 (by decide) (by omega) (by omega) (fun c_26 => by omega) (fun c_26 => ?_)
      refine r_aload_0 dX8_begins_29 ?_
      refine r_getR (a := 93) dX8_begins_30 fl_X8_71 rfl rfl ?_
      refine r_iload_1 dX8_begins_33 ?_
      refine r_iload_1 dX8_begins_34 ?_
      refine r_if_le 47 dX8_begins_35 (by decide) (fun c_35 => ?_) (fun c_35 => by exact absurd (show nI 0 ≤ 0 by decide) c_35)
      refine r_lconst (v := 0) dX8_begins_47 (by decide) ?_
      refine r_lastN dX8_begins_48 rfl (by omega) ?_
      refine r_iincN_1 dX8_begins_49 ?_
      refine r_goto 23 dX8_begins_52 (by decide) ?_
      refine ih (0 + 1) _ (by omega) (fun i hi => ?_) (fun i hi => ?_) (be.pL (Or.inr rfl))
      · simp (decide := true) only [pI_1, pI_2, pL_1, pL_2, pA_1, pA_2, pB_1, pB_2, Nat.add_left_cancel_iff, Nat.add_right_cancel_iff, Nat.add_eq_left, Nat.left_eq_add, true_and, false_and, and_false, and_true, and_self, if_true, if_false, ite_true, ite_false]
        exact hz i hi
      · simp (decide := true) only [pI_1, pI_2, pL_1, pL_2, pA_1, pA_2, pB_1, pB_2, Nat.add_left_cancel_iff, Nat.add_right_cancel_iff, Nat.add_eq_left, Nat.left_eq_add, true_and, false_and, and_false, and_true, and_self, if_true, if_false, ite_true, ite_false]
        by_cases q : i = 0
        · rw [if_pos q, q, if_neg hj0]
        · rw [if_neg q]; exact hc i (by omega)
set_option maxRecDepth 100000 in
set_option maxHeartbeats 4000000 in
theorem mbC {t : NT} (ok : okT t) (sh : Int32) (h0 : PH) (nc : NetM h0 t) (tc : TreeM h0 (trS (snOf t) sh)) : ∀ (k : Nat) (x : FL × FL) (h : PH), k < (trS (snOf t) sh).1 → (∀ i, i ≤ k → h.2 93 ((trS (snOf t) sh).2.1 i) = x.1 ((trS (snOf t) sh).2.1 i)) → (∀ e, e < 14 → h.2 87 e = x.2 e) → BEM h0 h → RT mX8_begins 3 62 [some (.ref 74), some (.int (nI k)), none] [] h (fun a h' => a = none ∧ ((∀ e, e < 14 → h'.2 87 e = (bgL (NT.fi t) (NT.se t) (trS (snOf t) sh) k x).2 e) ∧ BEM h0 h')) := by
  have hE14 := ok.2.2.1
  have hj9 := ok.2.1
  have tw := ok.tw sh
  have h9 := tw.le
  intro k
  induction k with
  | zero =>
    intro x h hk hc hf be
    refine r_iload_1 dX8_begins_62 ?_
    refine r_if_le 140 dX8_begins_63 (by decide) (fun c_63 => ?_) (fun c_63 => by exact absurd (show nI 0 ≤ 0 by decide) c_63)
    refine r_vret dX8_begins_140 rfl ?_
    exact ⟨rfl, hf, be⟩
  | succ k ih =>
    intro x h hk hc hf be
    obtain ⟨kp, hkp, hup, hpe, -⟩ := tw.up ok.ends ok.2.2.1 (show 0 < k + 1 by omega) hk
    have hj := (tw.1 (k + 1) hk).2
    have hj9' := (tw.1 (k + 1) hk).1
    have hj0 : (trS (snOf t) sh).2.1 (k + 1) ≠ 0 := fun q => by have := tw.2.1 (k + 1) 0 hk tw.2.2.2.1.1 (q.trans tw.2.2.2.1.2.symm); omega
    have nc1 : NetM h t := nc.ext be.1
    have tc1 : TreeM h (trS (snOf t) sh) := tc.ex1 be.1
    have ta := tc1.at tw ok.ends ok.2.2.1 hj hj0
    have hq := tc1.2.2.1 (k + 1) hk
    have hu9 := (tw.1 kp (by omega)).1
    rw [← hup] at hu9
    have hcj := hc (k + 1) (Nat.le_refl _)
    have hcu := hc kp (by omega)
    rw [← hup] at hcu
    have hne : ¬ upj (NT.fi t) (NT.se t) (trS (snOf t) sh) ((trS (snOf t) sh).2.1 (k + 1)) = (trS (snOf t) sh).2.1 (k + 1) := fun q => by rw [hup] at q; have := tw.2.1 kp (k + 1) (by omega) hk q; omega
    show RT _ _ _ _ _ _ (fun a h' => a = none ∧ ((∀ e, e < 14 → h'.2 87 e = (bgL (NT.fi t) (NT.se t) (trS (snOf t) sh) k (bg1 (NT.fi t) (NT.se t) (trS (snOf t) sh) ((trS (snOf t) sh).2.1 (k + 1)) x)).2 e) ∧ BEM h0 h'))
    generalize hjj : (trS (snOf t) sh).2.1 (k + 1) = j at *
    have hpe' : pe (trS (snOf t) sh) j < NT.E t := hpe
    have hpe14 : pe (trS (snOf t) sh) j < 14 := by omega
    obtain ⟨ee1, ee2, ee3⟩ := ok.ends _ hpe'
    have n2 := (nc1.2.2.2.2.2.2 _ hpe').2.1
    refine r_iload_1 dX8_begins_62 ?_
    refine r_if_le 140 dX8_begins_63 (by decide) (fun c_63 => by exact absurd c_63 (nI_nle (by omega) (by omega))) (fun c_63 => ?_)
    refine r_aload_0 dX8_begins_66 ?_
    refine r_getR (a := 86) dX8_begins_67 fl_X8_49 rfl rfl ?_
    refine r_iload_1 dX8_begins_70 ?_
    refine r_ialdN dX8_begins_71 rfl (by omega) ?_
    rw [hq]
    refine r_istore_2 dX8_begins_72 ?_
    refine r_aload_0 dX8_begins_73 ?_
    refine r_getR (a := 93) dX8_begins_74 fl_X8_71 rfl rfl ?_
    refine r_aload_0 dX8_begins_77 ?_
    refine r_iload_2 dX8_begins_78 ?_
    refine r_cV1 mX8_above dX8_begins_79 ml_X8_285 mo_X8_above rfl (q_above ok nc1 tw tc1 hj hj0) (by decide) ?_
    refine r_dup2ir dX8_begins_82 ?_
    refine r_laldN dX8_begins_83 rfl (by omega) ?_
    refine r_aload_0 dX8_begins_84 ?_
    refine r_getR (a := 93) dX8_begins_85 fl_X8_71 rfl rfl ?_
    refine r_iload_2 dX8_begins_88 ?_
    refine r_laldN dX8_begins_89 rfl (by omega) ?_
    refine r_ladd dX8_begins_90 ?_
    refine r_lastN dX8_begins_91 rfl (by omega) ?_
    refine r_aload_0 dX8_begins_92 ?_
    refine r_getR (a := 87) dX8_begins_93 fl_X8_52 rfl rfl ?_
    refine r_aload_0 dX8_begins_96 ?_
    refine r_getR (a := 85) dX8_begins_97 fl_X8_46 rfl rfl ?_
    refine r_iload_2 dX8_begins_100 ?_
    refine r_ialdN dX8_begins_101 rfl (by omega) ?_
    simp only [pL_1]
    rw [ta]
    refine r_aload_0 dX8_begins_102 ?_
    refine r_getR (a := 80) dX8_begins_103 fl_X8_31 rfl rfl ?_
    refine r_aload_0 dX8_begins_106 ?_
    refine r_getR (a := 85) dX8_begins_107 fl_X8_46 rfl rfl ?_
    refine r_iload_2 dX8_begins_110 ?_
    refine r_ialdN dX8_begins_111 rfl (by omega) ?_
    simp only [pL_1]
    rw [ta]
    refine r_ialdN dX8_begins_112 rfl (by omega) ?_
    simp only [pL_1]
    rw [n2]
    refine r_iload_2 dX8_begins_113 ?_
    refine r_icmpN_ne 126 dX8_begins_114 (by decide) (by omega) (by omega) (fun c_114 => ?_) (fun c_114 => ?_)
    · refine r_aload_0 dX8_begins_126 ?_
      refine r_getR (a := 93) dX8_begins_127 fl_X8_71 rfl rfl ?_
      refine r_iload_2 dX8_begins_130 ?_
      refine r_laldN dX8_begins_131 rfl (by omega) ?_
      refine r_lneg dX8_begins_132 ?_
      refine r_lastN dX8_begins_133 rfl (by omega) ?_
      refine r_idecN_1 dX8_begins_134 ?_
      refine r_goto 62 dX8_begins_137 (by decide) ?_
      refine RT.sub (lv' := [some (.ref 74), some (.int (nI k)), none]) (by simp [lsub]) ?_
      refine ih _ _ (by omega) (fun i hi => ?_) (fun e he => ?_) ((be.pL (Or.inr rfl)).pL (Or.inl rfl))
      · have hij : ¬ (trS (snOf t) sh).2.1 i = j := fun q => by rw [← hjj] at q; have := tw.2.1 i (k + 1) (by omega) hk q; omega
        have hci := hc i (by omega)
        show _ = fupd x.1 (upj (NT.fi t) (NT.se t) (trS (snOf t) sh) j) (x.1 (upj (NT.fi t) (NT.se t) (trS (snOf t) sh) j) + x.1 j) ((trS (snOf t) sh).2.1 i)
        simp (decide := true) only [pI_1, pI_2, pL_1, pL_2, pA_1, pA_2, pB_1, pB_2, Nat.add_left_cancel_iff, Nat.add_right_cancel_iff, Nat.add_eq_left, Nat.left_eq_add, true_and, false_and, and_false, and_true, and_self, if_true, if_false, ite_true, ite_false]
        by_cases q : (trS (snOf t) sh).2.1 i = upj (NT.fi t) (NT.se t) (trS (snOf t) sh) j
        · rw [if_pos q, q, fupd_s, hcu, hcj]
        · rw [if_neg q, fupd_n q]; exact hci
      · show _ = fupd x.2 (pe (trS (snOf t) sh) j) (if NT.se t (pe (trS (snOf t) sh) j) = j then x.1 j else -(x.1 j)) e
        simp (decide := true) only [pI_1, pI_2, pL_1, pL_2, pA_1, pA_2, pB_1, pB_2, Nat.add_left_cancel_iff, Nat.add_right_cancel_iff, Nat.add_eq_left, Nat.left_eq_add, true_and, false_and, and_false, and_true, and_self, if_true, if_false, ite_true, ite_false]
        by_cases q : e = pe (trS (snOf t) sh) j
        · rw [if_pos q, q, fupd_s, if_neg (fun z => hne z.symm), hcj]
          simp [c_114]
        · rw [if_neg q, fupd_n q]; exact hf e he
    · refine r_aload_0 dX8_begins_117 ?_
      refine r_getR (a := 93) dX8_begins_118 fl_X8_71 rfl rfl ?_
      refine r_iload_2 dX8_begins_121 ?_
      refine r_laldN dX8_begins_122 rfl (by omega) ?_
      refine r_goto 133 dX8_begins_123 (by decide) ?_
      refine r_lastN dX8_begins_133 rfl (by omega) ?_
      refine r_idecN_1 dX8_begins_134 ?_
      refine r_goto 62 dX8_begins_137 (by decide) ?_
      refine RT.sub (lv' := [some (.ref 74), some (.int (nI k)), none]) (by simp [lsub]) ?_
      refine ih _ _ (by omega) (fun i hi => ?_) (fun e he => ?_) ((be.pL (Or.inr rfl)).pL (Or.inl rfl))
      · have hij : ¬ (trS (snOf t) sh).2.1 i = j := fun q => by rw [← hjj] at q; have := tw.2.1 i (k + 1) (by omega) hk q; omega
        have hci := hc i (by omega)
        show _ = fupd x.1 (upj (NT.fi t) (NT.se t) (trS (snOf t) sh) j) (x.1 (upj (NT.fi t) (NT.se t) (trS (snOf t) sh) j) + x.1 j) ((trS (snOf t) sh).2.1 i)
        simp (decide := true) only [pI_1, pI_2, pL_1, pL_2, pA_1, pA_2, pB_1, pB_2, Nat.add_left_cancel_iff, Nat.add_right_cancel_iff, Nat.add_eq_left, Nat.left_eq_add, true_and, false_and, and_false, and_true, and_self, if_true, if_false, ite_true, ite_false]
        by_cases q : (trS (snOf t) sh).2.1 i = upj (NT.fi t) (NT.se t) (trS (snOf t) sh) j
        · rw [if_pos q, q, fupd_s, hcu, hcj]
        · rw [if_neg q, fupd_n q]; exact hci
      · show _ = fupd x.2 (pe (trS (snOf t) sh) j) (if NT.se t (pe (trS (snOf t) sh) j) = j then x.1 j else -(x.1 j)) e
        simp (decide := true) only [pI_1, pI_2, pL_1, pL_2, pA_1, pA_2, pB_1, pB_2, Nat.add_left_cancel_iff, Nat.add_right_cancel_iff, Nat.add_eq_left, Nat.left_eq_add, true_and, false_and, and_false, and_true, and_self, if_true, if_false, ite_true, ite_false]
        by_cases q : e = pe (trS (snOf t) sh) j
        · rw [if_pos q, q, fupd_s, if_neg (fun z => hne z.symm), hcj]
          simp [c_114]
        · rw [if_neg q, fupd_n q]; exact hf e he

set_option maxRecDepth 100000 in
set_option maxHeartbeats 4000000 in
theorem q_begins {t : NT} (ok : okT t) (sh : Int32) {h : PH} (nc : NetM h t) (tc : TreeM h (trS (snOf t) sh)) : Con mX8_begins 3 [.ref 74] h (fun a h' => a = none ∧ ((∀ e, e < 14 → h'.2 87 e = bgS (snOf t) sh e) ∧ BEM h h')) := by
  refine Con.mk (by decide) ?_
  show RT _ _ 0 [some (.ref 74), none, none] [] _ _
  have tw := ok.tw sh
  have h9 := tw.le
  refine r_iconst (v := nI 0) dX8_begins_0 (by decide) ?_
  refine r_istore_1 dX8_begins_1 ?_
  refine mbA h (fun hA zA beA => ?_) 14 0 h (by omega) (fun i hi => by omega) BEM.rf
  refine r_iconst (v := nI 0) dX8_begins_21 (by decide) ?_
  refine r_istore_1 dX8_begins_22 ?_
  refine mbB h (fun hB zB cB beB => ?_) 9 0 hA (by omega) zA (fun i hi => by omega) beA
  refine r_aload_0 dX8_begins_55 ?_
  refine r_getI dX8_begins_56 fl_X8_278 rfl ?_
  rw [show hB.1 74 32 = nI (trS (snOf t) sh).1 from (tc.ex1 beB.1).2.1]
  refine r_iconst (v := nI 1) dX8_begins_59 (by decide) ?_
  refine r_isub dX8_begins_60 ?_
  rw [pk_sub tw.2.2.2.1.1]
  refine r_istore_1 dX8_begins_61 ?_
  refine mbC ok sh h nc tc ((trS (snOf t) sh).1 - 1) (car0 (drT t), fun _ => 0) hB (by have := tw.2.2.2.1.1; omega) (fun i hi => ?_) (fun e he => zB e he) beB
  have hi' : i < (trS (snOf t) sh).1 := by have := tw.2.2.2.1.1; omega
  rw [cB _ (tw.1 i hi').1]
  show _ = car0 (drT t) _
  unfold car0
  by_cases q : 0 < (trS (snOf t) sh).2.1 i
  · have hjJ := ok.met sh (tw.1 i hi').2
    rw [if_pos q, if_pos q, nc.2.2.2.2.1 _ q hjJ]
    exact (if_pos hjJ).symm
  · rw [if_neg q, if_neg q]

set_option maxRecDepth 100000 in
set_option maxHeartbeats 4000000 in
theorem mSum_loop {t : NT} (ok : okT t) {h : PH} (nc : NetM h t) {k : Nat} (hk : k < 14) {L : RG} (ra : RAtM h k L) (h9 : L.length ≤ 9) (hm : ∀ q ∈ L, q.1 < NT.E t) (f : FL) (hf : ∀ e, e < 14 → h.2 87 e = f e) : ∀ (m j : Nat) (acc : Int64), j + m = L.length → RT mX8_ringSum 3 5 [some (.ref 74), some (.int (nI k)), some (.long acc), none, some (.int (nI j)), none] [] h (fun a b => a = some (.long ((L.drop j).foldl (fun a q => a + q.2.toInt64 * lsT t q.1 (f q.1)) acc)) ∧ b = h) := by
  have hE14 := ok.2.2.1
  intro m
  induction m with
  | zero =>
    intro j acc hj
    refine r_iload_4 dX8_ringSum_5 ?_
    refine r_aload_0 dX8_ringSum_7 ?_
    refine r_getR (a := 90) dX8_ringSum_8 fl_X8_62 rfl rfl ?_
    refine r_iload_1 dX8_ringSum_11 ?_
    refine r_ialdN dX8_ringSum_12 rfl (by omega) ?_
    rw [ra.1]
    refine r_icmpN_ge 66 dX8_ringSum_13 (by decide) (by omega) (by omega) (fun c_13 => ?_) (fun c_13 => by omega)
    refine r_lload_2 dX8_ringSum_66 ?_
    refine r_lret dX8_ringSum_67 rfl ?_
    exact ⟨by rw [List.drop_eq_nil_of_le (by omega)]; rfl, rfl⟩
  | succ m ih =>
    intro j acc hj
    have hjl : j < L.length := by omega
    have he : (gq L j).1 < NT.E t := hm _ (gq_mem hjl)
    have hr := ra.2 j hjl
    rw [drop_gq hjl]
    refine r_iload_4 dX8_ringSum_5 ?_
    refine r_aload_0 dX8_ringSum_7 ?_
    refine r_getR (a := 90) dX8_ringSum_8 fl_X8_62 rfl rfl ?_
    refine r_iload_1 dX8_ringSum_11 ?_
    refine r_ialdN dX8_ringSum_12 rfl (by omega) ?_
    rw [ra.1]
    refine r_icmpN_ge 66 dX8_ringSum_13 (by decide) (by omega) (by omega) (fun c_13 => by omega) (fun c_13 => ?_)
    refine r_aload_0 dX8_ringSum_16 ?_
    refine r_getR (a := 88) dX8_ringSum_17 fl_X8_56 rfl rfl ?_
    refine r_bipush (v := nI 14) dX8_ringSum_20 (by decide) ?_
    refine r_iload_1 dX8_ringSum_22 ?_
    refine r_imul dX8_ringSum_23 ?_
    refine r_iload_4 dX8_ringSum_24 ?_
    refine r_iadd dX8_ringSum_26 ?_
    rw [pk_mul, nI_add]
    refine r_ialdN dX8_ringSum_27 rfl (by omega) ?_
    rw [hr.1]
    refine r_istore_5 dX8_ringSum_28 ?_
    refine r_lload_2 dX8_ringSum_30 ?_
    refine r_aload_0 dX8_ringSum_31 ?_
    refine r_getR (a := 89) dX8_ringSum_32 fl_X8_59 rfl rfl ?_
    refine r_bipush (v := nI 14) dX8_ringSum_35 (by decide) ?_
    refine r_iload_1 dX8_ringSum_37 ?_
    refine r_imul dX8_ringSum_38 ?_
    refine r_iload_4 dX8_ringSum_39 ?_
    refine r_iadd dX8_ringSum_41 ?_
    rw [pk_mul, nI_add]
    refine r_ialdN dX8_ringSum_42 rfl (by omega) ?_
    rw [hr.2]
    refine r_i2l dX8_ringSum_43 ?_
    refine r_aload_0 dX8_ringSum_44 ?_
    refine r_iload_5 dX8_ringSum_45 ?_
    refine r_aload_0 dX8_ringSum_47 ?_
    refine r_getR (a := 87) dX8_ringSum_48 fl_X8_52 rfl rfl ?_
    refine r_iload_5 dX8_ringSum_51 ?_
    refine r_laldN dX8_ringSum_53 rfl (by omega) ?_
    rw [hf _ (by omega)]
    refine r_cV2 mX8_lossOf dX8_ringSum_54 ml_X8_324 mo_X8_lossOf rfl (q_lossOf ok nc he _) (by decide) ?_
    refine r_lmul dX8_ringSum_57 ?_
    refine r_ladd dX8_ringSum_58 ?_
    refine r_lstore_2 dX8_ringSum_59 ?_
    refine r_iincN_4 dX8_ringSum_60 ?_
    refine r_goto 5 dX8_ringSum_63 (by decide) ?_
    refine RT.sub (lv' := [some (.ref 74), some (.int (nI k)), some (.long (acc + (gq L j).2.toInt64 * lsT t (gq L j).1 (f (gq L j).1))), none, some (.int (nI (j + 1))), none]) (by simp [lsub]) ?_
    rw [List.foldl_cons]
    exact ih (j + 1) _ (by omega)
set_option maxRecDepth 100000 in
set_option maxHeartbeats 4000000 in
theorem q_mSum {t : NT} (ok : okT t) {h : PH} (nc : NetM h t) {k : Nat} (hk : k < 14) {L : RG} (ra : RAtM h k L) (h9 : L.length ≤ 9) (hm : ∀ q ∈ L, q.1 < NT.E t) (f : FL) (hf : ∀ e, e < 14 → h.2 87 e = f e) : ConF mX8_ringSum 3 [.ref 74, .int (nI k)] h (some (.long (rSum (lsT t) f L))) h := by
  refine Con.mk (by decide) ?_
  show RT _ _ 0 [some (.ref 74), some (.int (nI k)), none, none, none, none] [] _ _
  refine r_lconst (v := 0) dX8_ringSum_0 (by decide) ?_
  refine r_lstore_2 dX8_ringSum_1 ?_
  refine r_iconst (v := nI 0) dX8_ringSum_2 (by decide) ?_
  refine r_istore_4 dX8_ringSum_3 ?_
  exact mSum_loop ok nc hk ra h9 hm f hf L.length 0 0 (by omega)

set_option maxRecDepth 100000 in
set_option maxHeartbeats 4000000 in
theorem mStp_loop {t : NT} (ok : okT t) {h : PH} (nc : NetM h t) {k : Nat} (hk : k < 14) {L : RG} (ra : RAtM h k L) (h9 : L.length ≤ 9) (hm : ∀ q ∈ L, q.1 < NT.E t) (f : FL) (hf : ∀ e, e < 14 → h.2 87 e = f e) : ∀ (m j : Nat) (acc : Int64), j + m = L.length → RT mX8_ringSteep 3 5 [some (.ref 74), some (.int (nI k)), some (.long acc), none, some (.int (nI j))] [] h (fun a b => a = some (.long ((L.drop j).foldl (fun a q => a + spT t q.1 (f q.1)) acc)) ∧ b = h) := by
  have hE14 := ok.2.2.1
  intro m
  induction m with
  | zero =>
    intro j acc hj
    refine r_iload_4 dX8_ringSteep_5 ?_
    refine r_aload_0 dX8_ringSteep_7 ?_
    refine r_getR (a := 90) dX8_ringSteep_8 fl_X8_62 rfl rfl ?_
    refine r_iload_1 dX8_ringSteep_11 ?_
    refine r_ialdN dX8_ringSteep_12 rfl (by omega) ?_
    rw [ra.1]
    refine r_icmpN_ge 41 dX8_ringSteep_13 (by decide) (by omega) (by omega) (fun c_13 => ?_) (fun c_13 => by omega)
    refine r_lload_2 dX8_ringSteep_41 ?_
    refine r_lret dX8_ringSteep_42 rfl ?_
    exact ⟨by rw [List.drop_eq_nil_of_le (by omega)]; rfl, rfl⟩
  | succ m ih =>
    intro j acc hj
    have hjl : j < L.length := by omega
    have he : (gq L j).1 < NT.E t := hm _ (gq_mem hjl)
    have hr := ra.2 j hjl
    rw [drop_gq hjl]
    refine r_iload_4 dX8_ringSteep_5 ?_
    refine r_aload_0 dX8_ringSteep_7 ?_
    refine r_getR (a := 90) dX8_ringSteep_8 fl_X8_62 rfl rfl ?_
    refine r_iload_1 dX8_ringSteep_11 ?_
    refine r_ialdN dX8_ringSteep_12 rfl (by omega) ?_
    rw [ra.1]
    refine r_icmpN_ge 41 dX8_ringSteep_13 (by decide) (by omega) (by omega) (fun c_13 => by omega) (fun c_13 => ?_)
    refine r_lload_2 dX8_ringSteep_16 ?_
    refine r_aload_0 dX8_ringSteep_17 ?_
    refine r_aload_0 dX8_ringSteep_18 ?_
    refine r_getR (a := 88) dX8_ringSteep_19 fl_X8_56 rfl rfl ?_
    refine r_bipush (v := nI 14) dX8_ringSteep_22 (by decide) ?_
    refine r_iload_1 dX8_ringSteep_24 ?_
    refine r_imul dX8_ringSteep_25 ?_
    refine r_iload_4 dX8_ringSteep_26 ?_
    refine r_iadd dX8_ringSteep_28 ?_
    rw [pk_mul, nI_add]
    refine r_ialdN dX8_ringSteep_29 rfl (by omega) ?_
    rw [hr.1]
    refine r_cV1 mX8_steepOf dX8_ringSteep_30 ml_X8_333 mo_X8_steepOf rfl (q_steepOf ok nc he) (by decide) ?_
    rw [hf _ (by omega)]
    refine r_ladd dX8_ringSteep_33 ?_
    refine r_lstore_2 dX8_ringSteep_34 ?_
    refine r_iincN_4 dX8_ringSteep_35 ?_
    refine r_goto 5 dX8_ringSteep_38 (by decide) ?_
    refine RT.sub (lv' := [some (.ref 74), some (.int (nI k)), some (.long (acc + spT t (gq L j).1 (f (gq L j).1))), none, some (.int (nI (j + 1)))]) (by simp [lsub]) ?_
    rw [List.foldl_cons]
    exact ih (j + 1) _ (by omega)
set_option maxRecDepth 100000 in
set_option maxHeartbeats 4000000 in
theorem q_mStp {t : NT} (ok : okT t) {h : PH} (nc : NetM h t) {k : Nat} (hk : k < 14) {L : RG} (ra : RAtM h k L) (h9 : L.length ≤ 9) (hm : ∀ q ∈ L, q.1 < NT.E t) (f : FL) (hf : ∀ e, e < 14 → h.2 87 e = f e) : ConF mX8_ringSteep 3 [.ref 74, .int (nI k)] h (some (.long (rStp (spT t) f L))) h := by
  refine Con.mk (by decide) ?_
  show RT _ _ 0 [some (.ref 74), some (.int (nI k)), none, none, none] [] _ _
  refine r_lconst (v := 0) dX8_ringSteep_0 (by decide) ?_
  refine r_lstore_2 dX8_ringSteep_1 ?_
  refine r_iconst (v := nI 0) dX8_ringSteep_2 (by decide) ?_
  refine r_istore_4 dX8_ringSteep_3 ?_
  exact mStp_loop ok nc hk ra h9 hm f hf L.length 0 0 (by omega)

set_option maxRecDepth 100000 in
set_option maxHeartbeats 4000000 in
theorem q_nearest (h : PH) (u d : Int64) (hd : 1 ≤ d.toInt ∧ d.toInt ≤ 9663676416) : ConF mX8_nearest 1 [.long u, .long d] h (some (.long (nearS u d))) h := by
  refine Con.mk (by decide) ?_
  show RT _ _ 0 [some (.long u), none, some (.long d), none, none, none, none, none] [] _ _
  have e0 : (0 : Int64).toInt = 0 := by decide +kernel
  have e2 : (2 : Int64).toInt = 2 := by decide +kernel
  have hz : ¬ 2 * d = 0 := by
    intro q
    have m := fb_mulL (x := 2) (y := d) (by rw [e2]; omega) (by rw [e2]; omega)
    rw [q, e0, e2] at m
    omega
  refine r_lload_0 dX8_nearest_0 ?_
  refine r_lconst (v := 0) dX8_nearest_1 (by decide) ?_
  refine r_lif_ge 11 dX8_nearest_2 dX8_nearest_3 (by decide) (fun c_2 => ?_) (fun c_2 => ?_)
  · refine r_lload_0 dX8_nearest_11 ?_
    refine r_lstore_4 dX8_nearest_12 ?_
    refine r_ldc2 dX8_nearest_14 ks_X8_312 ?_
    refine r_lload_4 dX8_nearest_17 ?_
    refine r_lmul dX8_nearest_19 ?_
    refine r_lload_2 dX8_nearest_20 ?_
    refine r_ladd dX8_nearest_21 ?_
    refine r_lconst (v := 1) dX8_nearest_22 (by decide) ?_
    refine r_lsub dX8_nearest_23 ?_
    refine r_ldc2 dX8_nearest_24 ks_X8_312 ?_
    refine r_lload_2 dX8_nearest_27 ?_
    refine r_lmul dX8_nearest_28 ?_
    refine r_ldiv dX8_nearest_29 hz ?_
    refine r_lstore_6 dX8_nearest_30 ?_
    refine r_lload_0 dX8_nearest_32 ?_
    refine r_lconst (v := 0) dX8_nearest_33 (by decide) ?_
    refine r_lif_ge 44 dX8_nearest_34 dX8_nearest_35 (by decide) (fun c_34 => ?_) (fun c_34 => ?_)
    · refine r_lload_6 dX8_nearest_44 ?_
      refine r_lret dX8_nearest_46 rfl ?_
      exact ⟨by first | exact absurd c_2 c_34 | exact absurd c_34 c_2 | (unfold nearS; simp only [if_neg (Int64.not_lt.mpr c_34)]; done) | (unfold nearS; simp only [if_pos (Int64.not_le.mp c_34)]; done), rfl⟩
    · refine r_lload_6 dX8_nearest_38 ?_
      refine r_lneg dX8_nearest_40 ?_
      refine r_goto 46 dX8_nearest_41 (by decide) ?_
      refine r_lret dX8_nearest_46 rfl ?_
      exact ⟨by first | exact absurd c_2 c_34 | exact absurd c_34 c_2 | (unfold nearS; simp only [if_neg (Int64.not_lt.mpr c_34)]; done) | (unfold nearS; simp only [if_pos (Int64.not_le.mp c_34)]; done), rfl⟩
  · refine r_lload_0 dX8_nearest_6 ?_
    refine r_lneg dX8_nearest_7 ?_
    refine r_goto 12 dX8_nearest_8 (by decide) ?_
    refine r_lstore_4 dX8_nearest_12 ?_
    refine r_ldc2 dX8_nearest_14 ks_X8_312 ?_
    refine r_lload_4 dX8_nearest_17 ?_
    refine r_lmul dX8_nearest_19 ?_
    refine r_lload_2 dX8_nearest_20 ?_
    refine r_ladd dX8_nearest_21 ?_
    refine r_lconst (v := 1) dX8_nearest_22 (by decide) ?_
    refine r_lsub dX8_nearest_23 ?_
    refine r_ldc2 dX8_nearest_24 ks_X8_312 ?_
    refine r_lload_2 dX8_nearest_27 ?_
    refine r_lmul dX8_nearest_28 ?_
    refine r_ldiv dX8_nearest_29 hz ?_
    refine r_lstore_6 dX8_nearest_30 ?_
    refine r_lload_0 dX8_nearest_32 ?_
    refine r_lconst (v := 0) dX8_nearest_33 (by decide) ?_
    refine r_lif_ge 44 dX8_nearest_34 dX8_nearest_35 (by decide) (fun c_34 => ?_) (fun c_34 => ?_)
    · refine r_lload_6 dX8_nearest_44 ?_
      refine r_lret dX8_nearest_46 rfl ?_
      exact ⟨by first | exact absurd c_2 c_34 | exact absurd c_34 c_2 | (unfold nearS; simp only [if_neg (Int64.not_lt.mpr c_34)]; done) | (unfold nearS; simp only [if_pos (Int64.not_le.mp c_34)]; done), rfl⟩
    · refine r_lload_6 dX8_nearest_38 ?_
      refine r_lneg dX8_nearest_40 ?_
      refine r_goto 46 dX8_nearest_41 (by decide) ?_
      refine r_lret dX8_nearest_46 rfl ?_
      exact ⟨by first | exact absurd c_2 c_34 | exact absurd c_34 c_2 | (unfold nearS; simp only [if_neg (Int64.not_lt.mpr c_34)]; done) | (unfold nearS; simp only [if_pos (Int64.not_le.mp c_34)]; done), rfl⟩

def SWM (h0 h' : PH) (f : FL) : Prop := (∀ e, e < 14 → h'.2 87 e = f e) ∧ h'.1 = h0.1 ∧ Fr (fun y => y = 87) h0 h'
set_option maxRecDepth 100000 in
set_option maxHeartbeats 4000000 in
theorem mless {t : NT} (ok : okT t) {k : Nat} (hk : k < 14) {L : RG} (h9 : L.length ≤ 9) (hm : ∀ q ∈ L, q.1 < NT.E t) (stp : Int64) (mv : Int32) (h0 : PH) {Q : Option Value → PH → Prop} : ∀ (m j : Nat) (f : FL) (h : PH), j + m = L.length → RAtM h k L → SWM h0 h f → (∀ h', SWM h0 h' ((L.drop j).foldl (fun f q => fupd f q.1 (f q.1 - q.2.toInt64 * stp)) f) → RT mX8_sweep 4 111 [some (.ref 74), some (.int mv), some (.int (nI k)), some (.long stp), none, none] [] h' Q) → RT mX8_sweep 4 59 [some (.ref 74), some (.int mv), some (.int (nI k)), some (.long stp), none, some (.int (nI j))] [] h Q := by
  have hE14 := ok.2.2.1
  intro m
  induction m with
  | zero =>
    intro j f h hj ra sw K
    refine r_iload_5 dX8_sweep_59 ?_
    refine r_aload_0 dX8_sweep_61 ?_
    refine r_getR (a := 90) dX8_sweep_62 fl_X8_62 rfl rfl ?_
    refine r_iload_2 dX8_sweep_65 ?_
    refine r_ialdN dX8_sweep_66 rfl (by omega) ?_
    rw [ra.1]
    refine r_icmpN_ge 111 dX8_sweep_67 (by decide) (by omega) (by omega) (fun c_67 => ?_) (fun c_67 => by omega)
    refine RT.sub (lv' := [some (.ref 74), some (.int mv), some (.int (nI k)), some (.long stp), none, none]) (by simp [lsub]) ?_
    have := K h
    rw [List.drop_eq_nil_of_le (by omega)] at this
    exact this sw
  | succ m ih =>
    intro j f h hj ra sw K
    have hjl : j < L.length := by omega
    have he : (gq L j).1 < NT.E t := hm _ (gq_mem hjl)
    have hr := ra.2 j hjl
    rw [drop_gq hjl] at K
    simp only [List.foldl_cons] at K
    refine r_iload_5 dX8_sweep_59 ?_
    refine r_aload_0 dX8_sweep_61 ?_
    refine r_getR (a := 90) dX8_sweep_62 fl_X8_62 rfl rfl ?_
    refine r_iload_2 dX8_sweep_65 ?_
    refine r_ialdN dX8_sweep_66 rfl (by omega) ?_
    rw [ra.1]
    refine r_icmpN_ge 111 dX8_sweep_67 (by decide) (by omega) (by omega) (fun c_67 => by omega) (fun c_67 => ?_)
    refine r_aload_0 dX8_sweep_70 ?_
    refine r_getR (a := 87) dX8_sweep_71 fl_X8_52 rfl rfl ?_
    refine r_aload_0 dX8_sweep_74 ?_
    refine r_getR (a := 88) dX8_sweep_75 fl_X8_56 rfl rfl ?_
    refine r_bipush (v := nI 14) dX8_sweep_78 (by decide) ?_
    refine r_iload_2 dX8_sweep_80 ?_
    refine r_imul dX8_sweep_81 ?_
    refine r_iload_5 dX8_sweep_82 ?_
    refine r_iadd dX8_sweep_84 ?_
    rw [pk_mul, nI_add]
    refine r_ialdN dX8_sweep_85 rfl (by omega) ?_
    rw [hr.1]
    refine r_dup2ir dX8_sweep_86 ?_
    refine r_laldN dX8_sweep_87 rfl (by omega) ?_
    rw [sw.1 _ (by omega)]
    refine r_aload_0 dX8_sweep_88 ?_
    refine r_getR (a := 89) dX8_sweep_89 fl_X8_59 rfl rfl ?_
    refine r_bipush (v := nI 14) dX8_sweep_92 (by decide) ?_
    refine r_iload_2 dX8_sweep_94 ?_
    refine r_imul dX8_sweep_95 ?_
    refine r_iload_5 dX8_sweep_96 ?_
    refine r_iadd dX8_sweep_98 ?_
    rw [pk_mul, nI_add]
    refine r_ialdN dX8_sweep_99 rfl (by omega) ?_
    rw [hr.2]
    refine r_i2l dX8_sweep_100 ?_
    refine r_lload_3 dX8_sweep_101 ?_
    refine r_lmul dX8_sweep_102 ?_
    refine r_lsub dX8_sweep_103 ?_
    refine r_lastN dX8_sweep_104 rfl (by omega) ?_
    refine r_iincN_5 dX8_sweep_105 ?_
    refine r_goto 59 dX8_sweep_108 (by decide) ?_
    refine ih (j + 1) _ _ (by omega) (ra.ex1 rfl) ⟨fun e he => ?_, sw.2.1, sw.2.2.pL rfl⟩ K
    rw [pL_2]
    by_cases q : e = (gq L j).1
    · subst q; rw [fupd_s]; simp
    · rw [fupd_n q, if_neg (fun z => q z.2)]; exact sw.1 e he

set_option maxRecDepth 100000 in
set_option maxHeartbeats 4000000 in
theorem msweep {t : NT} (ok : okT t) (sh : Int32) {h0 : PH} (nc : NetM h0 t) (rc : RingsM h0 (rgS (snOf t) sh)) : ∀ (m k : Nat) (x : FL × Bool) (h : PH), k + m = (rgS (snOf t) sh).length → FBd (8388608 + 9000 * k) x.1 → SWM h0 h x.1 → RT mX8_sweep 4 4 [some (.ref 74), some (.int (bI x.2)), some (.int (nI k)), none, none, none] [] h (fun a h' => a = some (.int (bI (((rgS (snOf t) sh).drop k).foldl (swp1 (lsT t) (spT t)) x).2)) ∧ SWM h0 h' (((rgS (snOf t) sh).drop k).foldl (swp1 (lsT t) (spT t)) x).1) := by
  have hE14 := ok.2.2.1
  have r14 : (rgS (snOf t) sh).length ≤ 14 := ok.ok.rings sh
  intro m
  induction m with
  | zero =>
    intro k x h hk fb sw
    refine r_iload_2 dX8_sweep_4 ?_
    refine r_aload_0 dX8_sweep_5 ?_
    refine r_getI dX8_sweep_6 fl_X8_288 rfl ?_
    rw [sw.2.1, rc.1]
    refine r_icmpN_ge 133 dX8_sweep_9 (by decide) (by omega) (by omega) (fun c_9 => ?_) (fun c_9 => by omega)
    refine r_iload_1 dX8_sweep_133 ?_
    refine r_zret dX8_sweep_134 rfl (by cases x.2 <;> rfl) ?_
    rw [List.drop_eq_nil_of_le (by omega)]
    exact ⟨rfl, sw⟩
  | succ m ih =>
    intro k x h hk fb sw
    have hkl : k < (rgS (snOf t) sh).length := by omega
    have hL : ((rgS (snOf t) sh).getD k []) ∈ (rgS (snOf t) sh) := by rw [List.getD_eq_getElem?_getD, List.getElem?_eq_getElem hkl]; exact List.getElem_mem _
    have rk := ok.ok.ring sh hL
    have hm : ∀ q ∈ ((rgS (snOf t) sh).getD k []), q.1 < NT.E t := fun q hq => by have := rk.2.2.2 q hq; simp only [gl, Bool.and_eq_true, decide_eq_true_eq] at this; exact this.1
    have fb24 : FBd 16777216 x.1 := fb.mono (by omega)
    have st : 1 ≤ (rStp (spT t) x.1 ((rgS (snOf t) sh).getD k [])).toInt ∧ (rStp (spT t) x.1 ((rgS (snOf t) sh).getD k [])).toInt ≤ 9 * 1073741824 := ok.ok.stp sh fb24 hL
    have ra : RAtM h k ((rgS (snOf t) sh).getD k []) := (rc.2 k hkl).ex1 sw.2.1
    have nc1 : NetM h t := nc.ext sw.2.1
    have hdrop : (rgS (snOf t) sh).drop k = ((rgS (snOf t) sh).getD k []) :: (rgS (snOf t) sh).drop (k + 1) := by
      rw [List.drop_eq_getElem_cons hkl, List.getD_eq_getElem?_getD, List.getElem?_eq_getElem hkl]; rfl
    rw [hdrop]
    simp only [List.foldl_cons]
    have fb' : FBd (8388608 + 9000 * (k + 1)) ((swp1 (lsT t) (spT t)) x ((rgS (snOf t) sh).getD k [])).1 := by
      have h9 := rk.2.1
      exact (lessS_b (clampS_b _) _ x.1 (8388608 + 9000 * k) fb rk.2.2.1 (by omega)).mono (by omega)
    have hw2 : ((swp1 (lsT t) (spT t)) x ((rgS (snOf t) sh).getD k [])).2 = (x.2 || decide (¬ stepS (lsT t) (spT t) x.1 ((rgS (snOf t) sh).getD k []) = 0)) := rfl
    have J : RT mX8_sweep 4 55 [some (.ref 74), some (.int (bI x.2)), some (.int (nI k)), none, none, none] [.long (stepS (lsT t) (spT t) x.1 ((rgS (snOf t) sh).getD k []))] h (fun a h' => a = some (.int (bI (((rgS (snOf t) sh).drop (k + 1)).foldl (swp1 (lsT t) (spT t)) ((swp1 (lsT t) (spT t)) x ((rgS (snOf t) sh).getD k []))).2)) ∧ SWM h0 h' (((rgS (snOf t) sh).drop (k + 1)).foldl (swp1 (lsT t) (spT t)) ((swp1 (lsT t) (spT t)) x ((rgS (snOf t) sh).getD k []))).1) := by
      refine r_lstore_3 dX8_sweep_55 ?_
      refine r_iconst (v := nI 0) dX8_sweep_56 (by decide) ?_
      refine r_istore_5 dX8_sweep_57 ?_
      refine mless ok (by omega) rk.2.1 hm _ _ h0 ((rgS (snOf t) sh).getD k []).length 0 x.1 h (by omega) ra sw (fun h1 sw1 => ?_)
      rw [List.drop_zero] at sw1
      refine r_iload_1 dX8_sweep_111 ?_
      refine r_if_ne 121 dX8_sweep_112 (by decide) (fun c_112 => ?_) (fun c_112 => ?_)
      · refine r_iconst (v := 1) dX8_sweep_121 (by decide) ?_
        refine r_goto 126 dX8_sweep_122 (by decide) ?_
        refine r_istore_1 dX8_sweep_126 ?_
        refine r_iincN_2 dX8_sweep_127 ?_
        refine r_goto 4 dX8_sweep_130 (by decide) ?_
        refine RT.sub (lv' := [some (.ref 74), some (.int 1), some (.int (nI (k + 1))), none, none, none]) (by simp [lsub]) ?_
        have := ih (k + 1) ((swp1 (lsT t) (spT t)) x ((rgS (snOf t) sh).getD k [])) h1 (by omega) fb' sw1
        rw [hw2, show x.2 = true by cases q : x.2 with | true => rfl | false => exact absurd (by rw [q]; rfl) c_112, Bool.true_or] at this
        exact this
      · refine r_lload_3 dX8_sweep_115 ?_
        refine r_lconst (v := 0) dX8_sweep_116 (by decide) ?_
        refine r_lif_eq 125 dX8_sweep_117 dX8_sweep_118 (by decide) (fun c_117 => ?_) (fun c_117 => ?_)
        · refine r_iconst (v := 0) dX8_sweep_125 (by decide) ?_
          refine r_istore_1 dX8_sweep_126 ?_
          refine r_iincN_2 dX8_sweep_127 ?_
          refine r_goto 4 dX8_sweep_130 (by decide) ?_
          refine RT.sub (lv' := [some (.ref 74), some (.int 0), some (.int (nI (k + 1))), none, none, none]) (by simp [lsub]) ?_
          have := ih (k + 1) ((swp1 (lsT t) (spT t)) x ((rgS (snOf t) sh).getD k [])) h1 (by omega) fb' sw1
          rw [hw2, show x.2 = false by cases q : x.2 with | false => rfl | true => exact absurd c_112 (by rw [q]; decide), decide_eq_false (fun z => z c_117), Bool.false_or] at this
          exact this
        · refine r_iconst (v := 1) dX8_sweep_121 (by decide) ?_
          refine r_goto 126 dX8_sweep_122 (by decide) ?_
          refine r_istore_1 dX8_sweep_126 ?_
          refine r_iincN_2 dX8_sweep_127 ?_
          refine r_goto 4 dX8_sweep_130 (by decide) ?_
          refine RT.sub (lv' := [some (.ref 74), some (.int 1), some (.int (nI (k + 1))), none, none, none]) (by simp [lsub]) ?_
          have := ih (k + 1) ((swp1 (lsT t) (spT t)) x ((rgS (snOf t) sh).getD k [])) h1 (by omega) fb' sw1
          rw [hw2, decide_eq_true c_117, Bool.or_true] at this
          exact this
    refine r_iload_2 dX8_sweep_4 ?_
    refine r_aload_0 dX8_sweep_5 ?_
    refine r_getI dX8_sweep_6 fl_X8_288 rfl ?_
    rw [sw.2.1, rc.1]
    refine r_icmpN_ge 133 dX8_sweep_9 (by decide) (by omega) (by omega) (fun c_9 => by omega) (fun c_9 => ?_)
    refine r_aload_0 dX8_sweep_12 ?_
    refine r_iload_2 dX8_sweep_13 ?_
    refine r_cV1 mX8_ringSum dX8_sweep_14 ml_X8_337 mo_X8_ringSum rfl (q_mSum ok nc1 (by omega) ra rk.2.1 hm x.1 sw.1) (by decide) ?_
    refine r_aload_0 dX8_sweep_17 ?_
    refine r_iload_2 dX8_sweep_18 ?_
    refine r_cV1 mX8_ringSteep dX8_sweep_19 ml_X8_340 mo_X8_ringSteep rfl (q_mStp ok nc1 (by omega) ra rk.2.1 hm x.1 sw.1) (by decide) ?_
    refine r_cS2 mX8_nearest dX8_sweep_22 ml_X8_343 mo_X8_nearest (q_nearest h _ _ ⟨st.1, by have := st.2; omega⟩) (by decide) ?_
    refine r_lstore_3 dX8_sweep_25 ?_
    refine r_lload_3 dX8_sweep_26 ?_
    refine r_ldc2 dX8_sweep_27 ks_X8_347 ?_
    refine r_lif_le 40 dX8_sweep_30 dX8_sweep_31 (by decide) (fun c_30 => ?_) (fun c_30 => ?_)
    · refine r_lload_3 dX8_sweep_40 ?_
      refine r_ldc2 dX8_sweep_41 ks_X8_349 ?_
      refine r_lif_ge 54 dX8_sweep_44 dX8_sweep_45 (by decide) (fun c_44 => ?_) (fun c_44 => ?_)
      · refine r_lload_3 dX8_sweep_54 ?_
        refine RT.sub (lv' := [some (.ref 74), some (.int (bI x.2)), some (.int (nI k)), none, none, none]) (by simp [lsub]) ?_
        have hst : stepS (lsT t) (spT t) x.1 ((rgS (snOf t) sh).getD k []) = clampS (nearS (rSum (lsT t) x.1 ((rgS (snOf t) sh).getD k [])) (rStp (spT t) x.1 ((rgS (snOf t) sh).getD k []))) := rfl
        rw [hst] at J
        generalize nearS (rSum (lsT t) x.1 ((rgS (snOf t) sh).getD k [])) (rStp (spT t) x.1 ((rgS (snOf t) sh).getD k [])) = y at *
        rw [show clampS y = y by unfold clampS; rw [if_neg (Int64.not_lt.mpr c_30), if_neg (Int64.not_lt.mpr c_44)]] at J
        exact J
      · refine r_ldc2 dX8_sweep_48 ks_X8_349 ?_
        refine r_goto 55 dX8_sweep_51 (by decide) ?_
        refine RT.sub (lv' := [some (.ref 74), some (.int (bI x.2)), some (.int (nI k)), none, none, none]) (by simp [lsub]) ?_
        have hst : stepS (lsT t) (spT t) x.1 ((rgS (snOf t) sh).getD k []) = clampS (nearS (rSum (lsT t) x.1 ((rgS (snOf t) sh).getD k [])) (rStp (spT t) x.1 ((rgS (snOf t) sh).getD k []))) := rfl
        rw [hst] at J
        generalize nearS (rSum (lsT t) x.1 ((rgS (snOf t) sh).getD k [])) (rStp (spT t) x.1 ((rgS (snOf t) sh).getD k [])) = y at *
        rw [show clampS y = -1000 by unfold clampS; rw [if_neg (Int64.not_lt.mpr c_30), if_pos (Int64.not_le.mp c_44)]] at J
        exact J
    · refine r_ldc2 dX8_sweep_34 ks_X8_347 ?_
      refine r_goto 55 dX8_sweep_37 (by decide) ?_
      refine RT.sub (lv' := [some (.ref 74), some (.int (bI x.2)), some (.int (nI k)), none, none, none]) (by simp [lsub]) ?_
      have hst : stepS (lsT t) (spT t) x.1 ((rgS (snOf t) sh).getD k []) = clampS (nearS (rSum (lsT t) x.1 ((rgS (snOf t) sh).getD k [])) (rStp (spT t) x.1 ((rgS (snOf t) sh).getD k []))) := rfl
      rw [hst] at J
      generalize nearS (rSum (lsT t) x.1 ((rgS (snOf t) sh).getD k [])) (rStp (spT t) x.1 ((rgS (snOf t) sh).getD k [])) = y at *
      rw [show clampS y = 1000 by unfold clampS; rw [if_pos (Int64.not_le.mp c_30)]] at J
      exact J
set_option maxRecDepth 100000 in
set_option maxHeartbeats 4000000 in
theorem q_sweep {t : NT} (ok : okT t) (sh : Int32) {h : PH} (nc : NetM h t) (rc : RingsM h (rgS (snOf t) sh)) {f : FL} (fb : FBd 8388608 f) (hf : ∀ e, e < 14 → h.2 87 e = f e) : Con mX8_sweep 4 [.ref 74] h (fun a h' => a = some (.int (bI (gS (snOf t) sh f).2)) ∧ SWM h h' (gS (snOf t) sh f).1) := by
  refine Con.mk (by decide) ?_
  show RT _ _ 0 [some (.ref 74), none, none, none, none, none] [] _ _
  refine r_iconst (v := 0) dX8_sweep_0 (by decide) ?_
  refine r_istore_1 dX8_sweep_1 ?_
  refine r_iconst (v := nI 0) dX8_sweep_2 (by decide) ?_
  refine r_istore_2 dX8_sweep_3 ?_
  exact msweep ok sh nc rc (rgS (snOf t) sh).length 0 (f, false) h (by omega) (fb.mono (by omega)) ⟨hf, rfl, Fr.rf⟩

