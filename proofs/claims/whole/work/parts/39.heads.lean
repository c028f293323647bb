theorem fnd_s (p : Nat → Bool) (j m : Nat) : fnd p j (m + 1) = if p j = true then some j else fnd p (j + 1) m := rfl
/-! ===== the class: Waters.findHeads, wouldFlow, edgeToTurn, roundsToLeaveOut ===== -/
set_option maxRecDepth 100000 in
set_option maxHeartbeats 4000000 in
theorem heads_loop {w : Nat} (hW : isW w) {t : NT} (ok : okT t) (sh : Int32) (f : FL) {h0 : PH} (nc : NetC h0 (w + 1) t) (tc : TreeC h0 (w + 11) (NT.fi t) (NT.se t) (trS (snOf t) sh)) (hf : ∀ e, e < 14 → h0.2 (w + 22) e = f e) : ∀ (m k : Nat) (h : PH), k + 1 + m = (trS (snOf t) sh).1 → (∀ i, i ≤ k → h.2 (w + 23) ((trS (snOf t) sh).2.1 i) = hdL (NT.fi t) (NT.se t) (lsT t) (trS (snOf t) sh) f (100 * (NT.wh t).toInt64) k ((trS (snOf t) sh).2.1 i)) → h.1 = h0.1 → Fr (fun y => y = w + 23) h0 h → RT mX6_findHeads 2 20 [some (.ref w), some (.int (nI (k + 1))), none, none] [] h (fun a h' => a = none ∧ ((∀ i, i < (trS (snOf t) sh).1 → h'.2 (w + 23) ((trS (snOf t) sh).2.1 i) = hdL (NT.fi t) (NT.se t) (lsT t) (trS (snOf t) sh) f (100 * (NT.wh t).toInt64) ((trS (snOf t) sh).1 - 1) ((trS (snOf t) sh).2.1 i)) ∧ h'.1 = h0.1 ∧ Fr (fun y => y = w + 23) h0 h')) := by
  have hE14 := ok.2.2.1
  have tw := ok.tw sh
  have h9 := tw.le
  intro m
  induction m with
  | zero =>
    intro k h hk hd e1 fr
    refine r_iload_1 dX6_findHeads_20 ?_
    refine r_aload_0 dX6_findHeads_21 ?_
    refine r_getR (a := (w + 11)) dX6_findHeads_22 fl_X6_21 (hW.s 0 (by decide)) rfl ?_
    refine r_getI dX6_findHeads_25 fl_X6_100 (hW.s 11 (by decide)) ?_
    rw [e1, tc.2.2.1]
    refine r_icmpN_ge 107 dX6_findHeads_28 (by decide) (by omega) (by omega) (fun c_28 => ?_) (fun c_28 => by omega)
    refine r_vret dX6_findHeads_107 rfl ?_
    exact ⟨rfl, fun i hi => by rw [show (trS (snOf t) sh).1 - 1 = k by omega]; exact hd i (by omega), e1, fr⟩
  | succ m ih =>
    intro k h hk hd e1 fr
    have hk1 : k + 1 < (trS (snOf t) sh).1 := by omega
    obtain ⟨kp, hkp, hup, hpe, -⟩ := tw.up ok.ends ok.2.2.1 (show 0 < k + 1 by omega) hk1
    have hj := (tw.1 (k + 1) hk1).2
    have hj9 := (tw.1 (k + 1) hk1).1
    have hj0 : (trS (snOf t) sh).2.1 (k + 1) ≠ 0 := fun q => by have := tw.2.1 (k + 1) 0 hk1 tw.2.2.2.1.1 (q.trans tw.2.2.2.1.2.symm); omega
    have ta := tc.at tw ok.ends ok.2.2.1 hj hj0
    have hq := tc.2.2.2.1 (k + 1) hk1
    have hu9 := (tw.1 kp (by omega)).1
    have hdu := hd kp (by omega)
    rw [← hup] at hu9 hdu
    have hfe : h.2 (w + 22) (pe (trS (snOf t) sh) ((trS (snOf t) sh).2.1 (k + 1))) = f (pe (trS (snOf t) sh) ((trS (snOf t) sh).2.1 (k + 1))) := by rw [(fr (w + 22) (fun z => absurd z (by omega))).2]; exact hf _ (by omega)
    have nc1 : NetC h (w + 1) t := nc.ext e1
    rw [← e1] at ta hq
    refine r_iload_1 dX6_findHeads_20 ?_
    refine r_aload_0 dX6_findHeads_21 ?_
    refine r_getR (a := (w + 11)) dX6_findHeads_22 fl_X6_21 (hW.s 0 (by decide)) rfl ?_
    refine r_getI dX6_findHeads_25 fl_X6_100 (hW.s 11 (by decide)) ?_
    rw [e1, tc.2.2.1]
    refine r_icmpN_ge 107 dX6_findHeads_28 (by decide) (by omega) (by omega) (fun c_28 => by omega) (fun c_28 => ?_)
    refine r_aload_0 dX6_findHeads_31 ?_
    refine r_getR (a := (w + 11)) dX6_findHeads_32 fl_X6_21 (hW.s 0 (by decide)) rfl ?_
    refine r_getR (a := (w + 11 + 1)) dX6_findHeads_35 fl_X6_103 (hW.s 11 (by decide)) rfl ?_
    refine r_iload_1 dX6_findHeads_38 ?_
    refine r_ialdN dX6_findHeads_39 (hW.s 12 (by decide)) (by omega) ?_
    rw [hq]
    refine r_istore_2 dX6_findHeads_40 ?_
    refine r_aload_0 dX6_findHeads_41 ?_
    refine r_getR (a := (w + 11)) dX6_findHeads_42 fl_X6_21 (hW.s 0 (by decide)) rfl ?_
    refine r_getR (a := (w + 11 + 3)) dX6_findHeads_45 fl_X6_106 (hW.s 11 (by decide)) rfl ?_
    refine r_iload_2 dX6_findHeads_48 ?_
    refine r_ialdN dX6_findHeads_49 (hW.s 14 (by decide)) (by omega) ?_
    rw [ta.1]
    refine r_istore_3 dX6_findHeads_50 ?_
    refine r_iload_3 dX6_findHeads_51 ?_
    refine r_if_lt 101 dX6_findHeads_52 (by decide) (fun c_52 => by exact absurd c_52 (nI_pos (by omega))) (fun c_52 => ?_)
    refine r_aload_0 dX6_findHeads_55 ?_
    refine r_getR (a := (w + 23)) dX6_findHeads_56 fl_X6_36 (hW.s 0 (by decide)) rfl ?_
    refine r_iload_2 dX6_findHeads_59 ?_
    refine r_aload_0 dX6_findHeads_60 ?_
    refine r_getR (a := (w + 23)) dX6_findHeads_61 fl_X6_36 (hW.s 0 (by decide)) rfl ?_
    refine r_aload_0 dX6_findHeads_64 ?_
    refine r_getR (a := (w + 11)) dX6_findHeads_65 fl_X6_21 (hW.s 0 (by decide)) rfl ?_
    refine r_getR (a := (w + 11 + 2)) dX6_findHeads_68 fl_X6_112 (hW.s 11 (by decide)) rfl ?_
    refine r_iload_2 dX6_findHeads_71 ?_
    refine r_ialdN dX6_findHeads_72 (hW.s 13 (by decide)) (by omega) ?_
    rw [ta.2.1]
    refine r_laldN dX6_findHeads_73 (hW.s 23 (by decide)) (by omega) ?_
    rw [hdu]
    refine r_aload_0 dX6_findHeads_74 ?_
    refine r_getR (a := (w + 11)) dX6_findHeads_75 fl_X6_21 (hW.s 0 (by decide)) rfl ?_
    refine r_getR (a := (w + 11 + 4)) dX6_findHeads_78 fl_X6_115 (hW.s 11 (by decide)) rfl ?_
    refine r_iload_2 dX6_findHeads_81 ?_
    refine r_ialdN dX6_findHeads_82 (hW.s 15 (by decide)) (by omega) ?_
    rw [ta.2.2]
    refine r_i2l dX6_findHeads_83 ?_
    refine r_aload_0 dX6_findHeads_84 ?_
    refine r_getR (a := (w + 1)) dX6_findHeads_85 fl_X6_12 (hW.s 0 (by decide)) rfl ?_
    refine r_iload_3 dX6_findHeads_88 ?_
    refine r_aload_0 dX6_findHeads_89 ?_
    refine r_getR (a := (w + 22)) dX6_findHeads_90 fl_X6_32 (hW.s 0 (by decide)) rfl ?_
    refine r_iload_3 dX6_findHeads_93 ?_
    refine r_laldN dX6_findHeads_94 (hW.s 22 (by decide)) (by omega) ?_
    rw [hfe]
    refine r_cV2 mX2_lossBy dX6_findHeads_95 ml_X6_176 mo_X2_lossBy (hW.s 1 (by decide)) (k_X2_lossBy hW.n ok nc1 hpe _) (by decide) ?_
    refine r_lmul dX6_findHeads_98 ?_
    rw [way64]
    refine r_lsub dX6_findHeads_99 ?_
    refine r_lastN dX6_findHeads_100 (hW.s 23 (by decide)) (by omega) ?_
    refine r_iincN_1 dX6_findHeads_101 ?_
    refine r_goto 20 dX6_findHeads_104 (by decide) ?_
    refine RT.sub (lv' := [some (.ref w), some (.int (nI (k + 1 + 1))), none, none]) (by simp [lsub]) ?_
    refine ih (k + 1) _ (by omega) (fun i hi => ?_) e1 (fr.pL rfl)
    show _ = fupd _ _ _ _
    simp (decide := true) only [pI_1, pI_2, pL_1, pL_2, pA_1, pA_2, pB_1, pB_2, Nat.add_left_cancel_iff, Nat.add_right_cancel_iff, Nat.add_eq_left, Nat.left_eq_add, true_and, false_and, and_false, and_true, and_self, if_true, if_false, ite_true, ite_false]
    by_cases q : (trS (snOf t) sh).2.1 i = (trS (snOf t) sh).2.1 (k + 1)
    · rw [if_pos q, q, fupd_s]
    · rw [if_neg q, fupd_n q]
      refine hd i (Nat.le_of_lt_succ (Nat.lt_of_le_of_ne hi (fun z => q (by rw [z]))))

set_option maxRecDepth 100000 in
set_option maxHeartbeats 4000000 in
theorem k_findHeads {w : Nat} (hW : isW w) {t : NT} (ok : okT t) (sh : Int32) (f : FL) {h : PH} (nc : NetC h (w + 1) t) (tc : TreeC h (w + 11) (NT.fi t) (NT.se t) (trS (snOf t) sh)) (hf : ∀ e, e < 14 → h.2 (w + 22) e = f e) : Con mX6_findHeads 2 [.ref w] h (fun a h' => a = none ∧ ((∀ i, i < (trS (snOf t) sh).1 → h'.2 (w + 23) ((trS (snOf t) sh).2.1 i) = hdL (NT.fi t) (NT.se t) (lsT t) (trS (snOf t) sh) f (100 * (NT.wh t).toInt64) ((trS (snOf t) sh).1 - 1) ((trS (snOf t) sh).2.1 i)) ∧ h'.1 = h.1 ∧ Fr (fun y => y = w + 23) h h')) := by
  refine Con.mk (by decide) ?_
  show RT _ _ 0 [some (.ref w), none, none, none] [] _ _
  refine r_aload_0 dX6_findHeads_0 ?_
  refine r_getR (a := (w + 23)) dX6_findHeads_1 fl_X6_36 (hW.s 0 (by decide)) rfl ?_
  refine r_iconst (v := nI 0) dX6_findHeads_4 (by decide) ?_
  refine r_ldc2 dX6_findHeads_5 ks_X6_189 ?_
  refine r_aload_0 dX6_findHeads_8 ?_
  refine r_getR (a := (w + 1)) dX6_findHeads_9 fl_X6_12 (hW.s 0 (by decide)) rfl ?_
  refine r_getI dX6_findHeads_12 fl_X6_191 (hW.s 1 (by decide)) ?_
  rw [nc.2.2.1]
  refine r_i2l dX6_findHeads_15 ?_
  refine r_lmul dX6_findHeads_16 ?_
  refine r_lastN dX6_findHeads_17 (hW.s 23 (by decide)) (by omega) ?_
  refine r_iconst (v := nI 1) dX6_findHeads_18 (by decide) ?_
  refine r_istore_1 dX6_findHeads_19 ?_
  have tw := ok.tw sh
  have h9 := tw.le
  have hL := heads_loop hW ok sh f (h0 := pL h (w + 23) 0 (100 * (NT.wh t).toInt64)) nc tc (fun e he => by simp (decide := true) only [pI_1, pI_2, pL_1, pL_2, pA_1, pA_2, pB_1, pB_2, Nat.add_left_cancel_iff, Nat.add_right_cancel_iff, Nat.add_eq_left, Nat.left_eq_add, true_and, false_and, and_false, and_true, and_self, if_true, if_false, ite_true, ite_false]; exact hf e he) ((trS (snOf t) sh).1 - 1) 0 _ (by have := tw.2.2.2.1.1; omega) (fun i hi => ?_) rfl Fr.rf
  · exact hL.imp (fun a b q => ⟨q.1, q.2.1, q.2.2.1, Fr.tr (S := fun y => y = w + 23) (Fr.pL (S := fun y => y = w + 23) Fr.rf rfl) q.2.2.2⟩)
  · have : i = 0 := by omega
    subst this
    rw [tw.2.2.2.1.2]; exact pL_eq

set_option maxRecDepth 100000 in
set_option maxHeartbeats 4000000 in
theorem k_wouldFlow {w : Nat} (hW : isW w) {t : NT} (ok : okT t) (sh : Int32) {h : PH} (nc : NetC h (w + 1) t) (tc : TreeC h (w + 11) (NT.fi t) (NT.se t) (trS (snOf t) sh)) (hd : FL) (hh : ∀ i, i < (trS (snOf t) sh).1 → h.2 (w + 23) ((trS (snOf t) sh).2.1 i) = hd ((trS (snOf t) sh).2.1 i)) {e : Nat} (he : e < NT.E t) : ConF mX6_wouldFlow 2 [.ref w, .int (nI e)] h (some (.int (bI ((trS (snOf t) sh).2.2.2 (NT.fi t e) && (!(trS (snOf t) sh).2.2.2 (NT.se t e) || decide (hd (NT.se t e) < hd (NT.fi t e) - lsT t e 0)))))) h := by
  refine Con.mk (by decide) ?_
  show RT _ _ 0 [some (.ref w), some (.int (nI e)), none, none] [] _ _
  have hE14 := ok.2.2.1
  have tw := ok.tw sh
  obtain ⟨n1, n2, n3, n4, n5, n6⟩ := nc.2.2.2.2.2 e he
  obtain ⟨ee1, ee2, ee3⟩ := ok.ends e he
  have hm : ∀ j, (trS (snOf t) sh).2.2.2 j = true → h.2 (w + 23) j = hd j := fun j hj => by
    obtain ⟨i, hi, rfl, -⟩ := tw.at hj
    exact hh i hi
  by_cases mf : (trS (snOf t) sh).2.2.2 (NT.fi t e) = true
  · by_cases ms : (trS (snOf t) sh).2.2.2 (NT.se t e) = true
    · refine r_aload_0 dX6_wouldFlow_0 ?_
      refine r_getR (a := (w + 1)) dX6_wouldFlow_1 fl_X6_12 (hW.s 0 (by decide)) rfl ?_
      refine r_getR (a := (w + 1 + 4)) dX6_wouldFlow_4 fl_X6_205 (hW.s 1 (by decide)) rfl ?_
      refine r_iload_1 dX6_wouldFlow_7 ?_
      refine r_ialdN dX6_wouldFlow_8 (hW.s 5 (by decide)) (by omega) ?_
      rw [n1]
      refine r_istore_2 dX6_wouldFlow_9 ?_
      refine r_aload_0 dX6_wouldFlow_10 ?_
      refine r_getR (a := (w + 1)) dX6_wouldFlow_11 fl_X6_12 (hW.s 0 (by decide)) rfl ?_
      refine r_getR (a := (w + 1 + 5)) dX6_wouldFlow_14 fl_X6_208 (hW.s 1 (by decide)) rfl ?_
      refine r_iload_1 dX6_wouldFlow_17 ?_
      refine r_ialdN dX6_wouldFlow_18 (hW.s 6 (by decide)) (by omega) ?_
      rw [n2]
      refine r_istore_3 dX6_wouldFlow_19 ?_
      refine r_aload_0 dX6_wouldFlow_20 ?_
      refine r_getR (a := (w + 11)) dX6_wouldFlow_21 fl_X6_21 (hW.s 0 (by decide)) rfl ?_
      refine r_getI dX6_wouldFlow_24 fl_X6_211 (hW.s 11 (by decide)) ?_
      refine r_iload_2 dX6_wouldFlow_27 ?_
      refine r_cSN2 mX7_bit dX6_wouldFlow_28 ml_X6_197 mo_X7_bit (k_bit _ _ (j := NT.fi t e) (by omega)) (by decide) ?_
      rw [b2i_t (by rw [tc.1 _ (by omega)]; exact mf)]
      refine r_if_ne 36 dX6_wouldFlow_31 (by decide) (fun c_31 => ?_) (fun c_31 => by exact absurd c_31 (by decide))
      refine r_aload_0 dX6_wouldFlow_36 ?_
      refine r_getR (a := (w + 11)) dX6_wouldFlow_37 fl_X6_21 (hW.s 0 (by decide)) rfl ?_
      refine r_getI dX6_wouldFlow_40 fl_X6_211 (hW.s 11 (by decide)) ?_
      refine r_iload_3 dX6_wouldFlow_43 ?_
      refine r_cSN2 mX7_bit dX6_wouldFlow_44 ml_X6_197 mo_X7_bit (k_bit _ _ (j := NT.se t e) (by omega)) (by decide) ?_
      rw [b2i_t (by rw [tc.1 _ (by omega)]; exact ms)]
      refine r_if_eq 76 dX6_wouldFlow_47 (by decide) (fun c_47 => by exact absurd c_47 (by decide)) (fun c_47 => ?_)
      refine r_aload_0 dX6_wouldFlow_50 ?_
      refine r_getR (a := (w + 23)) dX6_wouldFlow_51 fl_X6_36 (hW.s 0 (by decide)) rfl ?_
      refine r_iload_3 dX6_wouldFlow_54 ?_
      refine r_laldN dX6_wouldFlow_55 (hW.s 23 (by decide)) (by omega) ?_
      rw [hm _ ms]
      refine r_aload_0 dX6_wouldFlow_56 ?_
      refine r_getR (a := (w + 23)) dX6_wouldFlow_57 fl_X6_36 (hW.s 0 (by decide)) rfl ?_
      refine r_iload_2 dX6_wouldFlow_60 ?_
      refine r_laldN dX6_wouldFlow_61 (hW.s 23 (by decide)) (by omega) ?_
      rw [hm _ mf]
      refine r_aload_0 dX6_wouldFlow_62 ?_
      refine r_getR (a := (w + 1)) dX6_wouldFlow_63 fl_X6_12 (hW.s 0 (by decide)) rfl ?_
      refine r_iload_1 dX6_wouldFlow_66 ?_
      refine r_lconst (v := 0) dX6_wouldFlow_67 (by decide) ?_
      refine r_cV2 mX2_lossBy dX6_wouldFlow_68 ml_X6_176 mo_X2_lossBy (hW.s 1 (by decide)) (k_X2_lossBy hW.n ok nc he 0) (by decide) ?_
      refine r_lsub dX6_wouldFlow_71 ?_
      refine r_lif_ge 80 dX6_wouldFlow_72 dX6_wouldFlow_73 (by decide) (fun c_72 => ?_) (fun c_72 => ?_)
      · refine r_iconst (v := 0) dX6_wouldFlow_80 (by decide) ?_
        refine r_zret dX6_wouldFlow_81 rfl rfl ?_
        exact ⟨by rw [mf, ms]; first | (rw [decide_eq_false (Int64.not_lt.mpr c_72)]; rfl) | (rw [decide_eq_true (Int64.not_le.mp c_72)]; rfl), rfl⟩
      · refine r_iconst (v := 1) dX6_wouldFlow_76 (by decide) ?_
        refine r_goto 81 dX6_wouldFlow_77 (by decide) ?_
        refine r_zret dX6_wouldFlow_81 rfl rfl ?_
        exact ⟨by rw [mf, ms]; first | (rw [decide_eq_false (Int64.not_lt.mpr c_72)]; rfl) | (rw [decide_eq_true (Int64.not_le.mp c_72)]; rfl), rfl⟩
    · refine r_aload_0 dX6_wouldFlow_0 ?_
      refine r_getR (a := (w + 1)) dX6_wouldFlow_1 fl_X6_12 (hW.s 0 (by decide)) rfl ?_
      refine r_getR (a := (w + 1 + 4)) dX6_wouldFlow_4 fl_X6_205 (hW.s 1 (by decide)) rfl ?_
      refine r_iload_1 dX6_wouldFlow_7 ?_
      refine r_ialdN dX6_wouldFlow_8 (hW.s 5 (by decide)) (by omega) ?_
      rw [n1]
      refine r_istore_2 dX6_wouldFlow_9 ?_
      refine r_aload_0 dX6_wouldFlow_10 ?_
      refine r_getR (a := (w + 1)) dX6_wouldFlow_11 fl_X6_12 (hW.s 0 (by decide)) rfl ?_
      refine r_getR (a := (w + 1 + 5)) dX6_wouldFlow_14 fl_X6_208 (hW.s 1 (by decide)) rfl ?_
      refine r_iload_1 dX6_wouldFlow_17 ?_
      refine r_ialdN dX6_wouldFlow_18 (hW.s 6 (by decide)) (by omega) ?_
      rw [n2]
      refine r_istore_3 dX6_wouldFlow_19 ?_
      refine r_aload_0 dX6_wouldFlow_20 ?_
      refine r_getR (a := (w + 11)) dX6_wouldFlow_21 fl_X6_21 (hW.s 0 (by decide)) rfl ?_
      refine r_getI dX6_wouldFlow_24 fl_X6_211 (hW.s 11 (by decide)) ?_
      refine r_iload_2 dX6_wouldFlow_27 ?_
      refine r_cSN2 mX7_bit dX6_wouldFlow_28 ml_X6_197 mo_X7_bit (k_bit _ _ (j := NT.fi t e) (by omega)) (by decide) ?_
      rw [b2i_t (by rw [tc.1 _ (by omega)]; exact mf)]
      refine r_if_ne 36 dX6_wouldFlow_31 (by decide) (fun c_31 => ?_) (fun c_31 => by exact absurd c_31 (by decide))
      refine r_aload_0 dX6_wouldFlow_36 ?_
      refine r_getR (a := (w + 11)) dX6_wouldFlow_37 fl_X6_21 (hW.s 0 (by decide)) rfl ?_
      refine r_getI dX6_wouldFlow_40 fl_X6_211 (hW.s 11 (by decide)) ?_
      refine r_iload_3 dX6_wouldFlow_43 ?_
      refine r_cSN2 mX7_bit dX6_wouldFlow_44 ml_X6_197 mo_X7_bit (k_bit _ _ (j := NT.se t e) (by omega)) (by decide) ?_
      rw [b2i_f (by rw [tc.1 _ (by omega)]; exact ms)]
      refine r_if_eq 76 dX6_wouldFlow_47 (by decide) (fun c_47 => ?_) (fun c_47 => by exact absurd rfl c_47)
      refine r_iconst (v := 1) dX6_wouldFlow_76 (by decide) ?_
      refine r_goto 81 dX6_wouldFlow_77 (by decide) ?_
      refine r_zret dX6_wouldFlow_81 rfl rfl ?_
      exact ⟨by rw [mf, show (trS (snOf t) sh).2.2.2 (NT.se t e) = false by simpa using ms]; rfl, rfl⟩
  · refine r_aload_0 dX6_wouldFlow_0 ?_
    refine r_getR (a := (w + 1)) dX6_wouldFlow_1 fl_X6_12 (hW.s 0 (by decide)) rfl ?_
    refine r_getR (a := (w + 1 + 4)) dX6_wouldFlow_4 fl_X6_205 (hW.s 1 (by decide)) rfl ?_
    refine r_iload_1 dX6_wouldFlow_7 ?_
    refine r_ialdN dX6_wouldFlow_8 (hW.s 5 (by decide)) (by omega) ?_
    rw [n1]
    refine r_istore_2 dX6_wouldFlow_9 ?_
    refine r_aload_0 dX6_wouldFlow_10 ?_
    refine r_getR (a := (w + 1)) dX6_wouldFlow_11 fl_X6_12 (hW.s 0 (by decide)) rfl ?_
    refine r_getR (a := (w + 1 + 5)) dX6_wouldFlow_14 fl_X6_208 (hW.s 1 (by decide)) rfl ?_
    refine r_iload_1 dX6_wouldFlow_17 ?_
    refine r_ialdN dX6_wouldFlow_18 (hW.s 6 (by decide)) (by omega) ?_
    rw [n2]
    refine r_istore_3 dX6_wouldFlow_19 ?_
    refine r_aload_0 dX6_wouldFlow_20 ?_
    refine r_getR (a := (w + 11)) dX6_wouldFlow_21 fl_X6_21 (hW.s 0 (by decide)) rfl ?_
    refine r_getI dX6_wouldFlow_24 fl_X6_211 (hW.s 11 (by decide)) ?_
    refine r_iload_2 dX6_wouldFlow_27 ?_
    refine r_cSN2 mX7_bit dX6_wouldFlow_28 ml_X6_197 mo_X7_bit (k_bit _ _ (j := NT.fi t e) (by omega)) (by decide) ?_
    rw [b2i_f (by rw [tc.1 _ (by omega)]; exact mf)]
    refine r_if_ne 36 dX6_wouldFlow_31 (by decide) (fun c_31 => by exact absurd rfl c_31) (fun c_31 => ?_)
    refine r_iconst (v := 0) dX6_wouldFlow_34 (by decide) ?_
    refine r_zret dX6_wouldFlow_35 rfl rfl ?_
    exact ⟨by rw [show (trS (snOf t) sh).2.2.2 (NT.fi t e) = false by simpa using mf]; rfl, rfl⟩
set_option maxRecDepth 100000 in
set_option maxHeartbeats 4000000 in
theorem turn2 {w : Nat} (hW : isW w) {t : NT} (ok : okT t) (sh : Int32) {h : PH} (nc : NetC h (w + 1) t) (tc : TreeC h (w + 11) (NT.fi t) (NT.se t) (trS (snOf t) sh)) (hd : FL) (hh : ∀ i, i < (trS (snOf t) sh).1 → h.2 (w + 23) ((trS (snOf t) sh).2.1 i) = hd ((trS (snOf t) sh).2.1 i)) (hs : h.1 w 9 = sh) : ∀ (m e : Nat), e + m = NT.E t → RT mX6_edgeToTurn 3 46 [some (.ref w), some (.int (nI e))] [] h (fun a b => a = some (.int (oI (fnd (fun e => bt sh e && ((trS (snOf t) sh).2.2.2 (NT.fi t e) && (!(trS (snOf t) sh).2.2.2 (NT.se t e) || decide (hd (NT.se t e) < hd (NT.fi t e) - lsT t e 0)))) e m))) ∧ b = h) := by
  have hE14 := ok.2.2.1
  intro m
  induction m with
  | zero =>
    intro e he
    refine r_iload_1 dX6_edgeToTurn_46 ?_
    refine r_aload_0 dX6_edgeToTurn_47 ?_
    refine r_getR (a := (w + 1)) dX6_edgeToTurn_48 fl_X6_12 (hW.s 0 (by decide)) rfl ?_
    refine r_getI dX6_edgeToTurn_51 fl_X6_83 (hW.s 1 (by decide)) ?_
    rw [nc.2.1]
    refine r_icmpN_ge 85 dX6_edgeToTurn_54 (by decide) (by omega) (by omega) (fun c_54 => ?_) (fun c_54 => by omega)
    refine r_iconst (v := (-1)) dX6_edgeToTurn_85 (by decide) ?_
    refine r_iret dX6_edgeToTurn_86 rfl ?_
    exact ⟨rfl, rfl⟩
  | succ m ih =>
    intro e he
    have hee : e < NT.E t := by omega
    rw [fnd_s]
    by_cases hb : bt sh e = true
    · by_cases hw : ((trS (snOf t) sh).2.2.2 (NT.fi t e) && (!(trS (snOf t) sh).2.2.2 (NT.se t e) || decide (hd (NT.se t e) < hd (NT.fi t e) - lsT t e 0))) = true
      · refine r_iload_1 dX6_edgeToTurn_46 ?_
        refine r_aload_0 dX6_edgeToTurn_47 ?_
        refine r_getR (a := (w + 1)) dX6_edgeToTurn_48 fl_X6_12 (hW.s 0 (by decide)) rfl ?_
        refine r_getI dX6_edgeToTurn_51 fl_X6_83 (hW.s 1 (by decide)) ?_
        rw [nc.2.1]
        refine r_icmpN_ge 85 dX6_edgeToTurn_54 (by decide) (by omega) (by omega) (fun c_54 => by omega) (fun c_54 => ?_)
        refine r_aload_0 dX6_edgeToTurn_57 ?_
        refine r_getI dX6_edgeToTurn_58 fl_X6_49 (hW.s 0 (by decide)) ?_
        rw [hs]
        refine r_iload_1 dX6_edgeToTurn_61 ?_
        refine r_cSN2 mX7_bit dX6_edgeToTurn_62 ml_X6_197 mo_X7_bit (k_bit _ _ (j := e) (by omega)) (by decide) ?_
        rw [b2i_t hb]
        refine r_iconst (v := 1) dX6_edgeToTurn_65 (by decide) ?_
        refine r_icmp_ne 79 dX6_edgeToTurn_66 (by decide) (fun c_66 => by exact absurd rfl c_66) (fun c_66 => ?_)
        refine r_aload_0 dX6_edgeToTurn_69 ?_
        refine r_iload_1 dX6_edgeToTurn_70 ?_
        refine r_cV1 mX6_wouldFlow dX6_edgeToTurn_71 ml_X6_201 mo_X6_wouldFlow (hW.s 0 (by decide)) (k_wouldFlow hW ok sh nc tc hd hh hee) (by decide) ?_
        rw [show bI ((trS (snOf t) sh).2.2.2 (NT.fi t e) && (!(trS (snOf t) sh).2.2.2 (NT.se t e) || decide (hd (NT.se t e) < hd (NT.fi t e) - lsT t e 0))) = 1 by rw [hw]; rfl]
        refine r_if_eq 79 dX6_edgeToTurn_74 (by decide) (fun c_74 => by exact absurd c_74 (by decide)) (fun c_74 => ?_)
        refine r_iload_1 dX6_edgeToTurn_77 ?_
        refine r_iret dX6_edgeToTurn_78 rfl ?_
        exact ⟨by rw [if_pos (by rw [hb, hw]; rfl)]; rfl, rfl⟩
      · refine r_iload_1 dX6_edgeToTurn_46 ?_
        refine r_aload_0 dX6_edgeToTurn_47 ?_
        refine r_getR (a := (w + 1)) dX6_edgeToTurn_48 fl_X6_12 (hW.s 0 (by decide)) rfl ?_
        refine r_getI dX6_edgeToTurn_51 fl_X6_83 (hW.s 1 (by decide)) ?_
        rw [nc.2.1]
        refine r_icmpN_ge 85 dX6_edgeToTurn_54 (by decide) (by omega) (by omega) (fun c_54 => by omega) (fun c_54 => ?_)
        refine r_aload_0 dX6_edgeToTurn_57 ?_
        refine r_getI dX6_edgeToTurn_58 fl_X6_49 (hW.s 0 (by decide)) ?_
        rw [hs]
        refine r_iload_1 dX6_edgeToTurn_61 ?_
        refine r_cSN2 mX7_bit dX6_edgeToTurn_62 ml_X6_197 mo_X7_bit (k_bit _ _ (j := e) (by omega)) (by decide) ?_
        rw [b2i_t hb]
        refine r_iconst (v := 1) dX6_edgeToTurn_65 (by decide) ?_
        refine r_icmp_ne 79 dX6_edgeToTurn_66 (by decide) (fun c_66 => by exact absurd rfl c_66) (fun c_66 => ?_)
        refine r_aload_0 dX6_edgeToTurn_69 ?_
        refine r_iload_1 dX6_edgeToTurn_70 ?_
        refine r_cV1 mX6_wouldFlow dX6_edgeToTurn_71 ml_X6_201 mo_X6_wouldFlow (hW.s 0 (by decide)) (k_wouldFlow hW ok sh nc tc hd hh hee) (by decide) ?_
        rw [show bI ((trS (snOf t) sh).2.2.2 (NT.fi t e) && (!(trS (snOf t) sh).2.2.2 (NT.se t e) || decide (hd (NT.se t e) < hd (NT.fi t e) - lsT t e 0))) = 0 by rw [show ((trS (snOf t) sh).2.2.2 (NT.fi t e) && (!(trS (snOf t) sh).2.2.2 (NT.se t e) || decide (hd (NT.se t e) < hd (NT.fi t e) - lsT t e 0))) = false by simpa using hw]; rfl]
        refine r_if_eq 79 dX6_edgeToTurn_74 (by decide) (fun c_74 => ?_) (fun c_74 => by exact absurd rfl c_74)
        refine r_iincN_1 dX6_edgeToTurn_79 ?_
        refine r_goto 46 dX6_edgeToTurn_82 (by decide) ?_
        rw [if_neg (by rw [hb, show ((trS (snOf t) sh).2.2.2 (NT.fi t e) && (!(trS (snOf t) sh).2.2.2 (NT.se t e) || decide (hd (NT.se t e) < hd (NT.fi t e) - lsT t e 0))) = false by simpa using hw]; simp)]
        exact ih (e + 1) (by omega)
    · refine r_iload_1 dX6_edgeToTurn_46 ?_
      refine r_aload_0 dX6_edgeToTurn_47 ?_
      refine r_getR (a := (w + 1)) dX6_edgeToTurn_48 fl_X6_12 (hW.s 0 (by decide)) rfl ?_
      refine r_getI dX6_edgeToTurn_51 fl_X6_83 (hW.s 1 (by decide)) ?_
      rw [nc.2.1]
      refine r_icmpN_ge 85 dX6_edgeToTurn_54 (by decide) (by omega) (by omega) (fun c_54 => by omega) (fun c_54 => ?_)
      refine r_aload_0 dX6_edgeToTurn_57 ?_
      refine r_getI dX6_edgeToTurn_58 fl_X6_49 (hW.s 0 (by decide)) ?_
      rw [hs]
      refine r_iload_1 dX6_edgeToTurn_61 ?_
      refine r_cSN2 mX7_bit dX6_edgeToTurn_62 ml_X6_197 mo_X7_bit (k_bit _ _ (j := e) (by omega)) (by decide) ?_
      rw [b2i_f hb]
      refine r_iconst (v := 1) dX6_edgeToTurn_65 (by decide) ?_
      refine r_icmp_ne 79 dX6_edgeToTurn_66 (by decide) (fun c_66 => ?_) (fun c_66 => by exact absurd c_66 (by decide))
      refine r_iincN_1 dX6_edgeToTurn_79 ?_
      refine r_goto 46 dX6_edgeToTurn_82 (by decide) ?_
      rw [if_neg (by rw [show bt sh e = false by simpa using hb]; simp)]
      exact ih (e + 1) (by omega)
set_option maxRecDepth 100000 in
set_option maxHeartbeats 4000000 in
theorem turn1 {w : Nat} (hW : isW w) {t : NT} (ok : okT t) (sh : Int32) {h : PH} (nc : NetC h (w + 1) t) (tc : TreeC h (w + 11) (NT.fi t) (NT.se t) (trS (snOf t) sh)) (hd : FL) (hh : ∀ i, i < (trS (snOf t) sh).1 → h.2 (w + 23) ((trS (snOf t) sh).2.1 i) = hd ((trS (snOf t) sh).2.1 i)) (hs : h.1 w 9 = sh) (f : FL) (hf : ∀ e, e < 14 → h.2 (w + 22) e = f e) : ∀ (m e : Nat), e + m = NT.E t → RT mX6_edgeToTurn 3 2 [some (.ref w), some (.int (nI e))] [] h (fun a b => a = some (.int (oI (match fnd (fun e => decide (¬ NT.kd t e = 0) && decide (f e < 0)) e m with | some x => some x | none => fnd (fun e => bt sh e && ((trS (snOf t) sh).2.2.2 (NT.fi t e) && (!(trS (snOf t) sh).2.2.2 (NT.se t e) || decide (hd (NT.se t e) < hd (NT.fi t e) - lsT t e 0)))) 0 (NT.E t)))) ∧ b = h) := by
  have hE14 := ok.2.2.1
  intro m
  induction m with
  | zero =>
    intro e he
    refine r_iload_1 dX6_edgeToTurn_2 ?_
    refine r_aload_0 dX6_edgeToTurn_3 ?_
    refine r_getR (a := (w + 1)) dX6_edgeToTurn_4 fl_X6_12 (hW.s 0 (by decide)) rfl ?_
    refine r_getI dX6_edgeToTurn_7 fl_X6_83 (hW.s 1 (by decide)) ?_
    rw [nc.2.1]
    refine r_icmpN_ge 44 dX6_edgeToTurn_10 (by decide) (by omega) (by omega) (fun c_10 => ?_) (fun c_10 => by omega)
    refine r_iconst (v := nI 0) dX6_edgeToTurn_44 (by decide) ?_
    refine r_istore_1 dX6_edgeToTurn_45 ?_
    exact turn2 hW ok sh nc tc hd hh hs (NT.E t) 0 (by omega)
  | succ m ih =>
    intro e he
    have hee : e < NT.E t := by omega
    obtain ⟨n1, n2, n3, n4, n5, n6⟩ := nc.2.2.2.2.2 e hee
    rw [fnd_s]
    refine r_iload_1 dX6_edgeToTurn_2 ?_
    refine r_aload_0 dX6_edgeToTurn_3 ?_
    refine r_getR (a := (w + 1)) dX6_edgeToTurn_4 fl_X6_12 (hW.s 0 (by decide)) rfl ?_
    refine r_getI dX6_edgeToTurn_7 fl_X6_83 (hW.s 1 (by decide)) ?_
    rw [nc.2.1]
    refine r_icmpN_ge 44 dX6_edgeToTurn_10 (by decide) (by omega) (by omega) (fun c_10 => by omega) (fun c_10 => ?_)
    refine r_aload_0 dX6_edgeToTurn_13 ?_
    refine r_getR (a := (w + 1)) dX6_edgeToTurn_14 fl_X6_12 (hW.s 0 (by decide)) rfl ?_
    refine r_getR (a := (w + 1 + 6)) dX6_edgeToTurn_17 fl_X6_194 (hW.s 1 (by decide)) rfl ?_
    refine r_iload_1 dX6_edgeToTurn_20 ?_
    refine r_ialdN dX6_edgeToTurn_21 (hW.s 7 (by decide)) (by omega) ?_
    rw [n3]
    refine r_if_eq 38 dX6_edgeToTurn_22 (by decide) (fun c_22 => ?_) (fun c_22 => ?_)
    · refine r_iincN_1 dX6_edgeToTurn_38 ?_
      refine r_goto 2 dX6_edgeToTurn_41 (by decide) ?_
      by_cases z : NT.kd t e = 0
      · rw [if_neg (by rw [decide_eq_false (fun q => q z)]; simp)]
        exact ih (e + 1) (by omega)
      · have z2 : ¬ f e < 0 := by first | exact absurd c_22 z | exact Int64.not_lt.mpr c_32
        rw [if_neg (by rw [decide_eq_false z2]; simp)]
        exact ih (e + 1) (by omega)
    · refine r_aload_0 dX6_edgeToTurn_25 ?_
      refine r_getR (a := (w + 22)) dX6_edgeToTurn_26 fl_X6_32 (hW.s 0 (by decide)) rfl ?_
      refine r_iload_1 dX6_edgeToTurn_29 ?_
      refine r_laldN dX6_edgeToTurn_30 (hW.s 22 (by decide)) (by omega) ?_
      rw [hf e (by omega)]
      refine r_lconst (v := 0) dX6_edgeToTurn_31 (by decide) ?_
      refine r_lif_ge 38 dX6_edgeToTurn_32 dX6_edgeToTurn_33 (by decide) (fun c_32 => ?_) (fun c_32 => ?_)
      · refine r_iincN_1 dX6_edgeToTurn_38 ?_
        refine r_goto 2 dX6_edgeToTurn_41 (by decide) ?_
        by_cases z : NT.kd t e = 0
        · rw [if_neg (by rw [decide_eq_false (fun q => q z)]; simp)]
          exact ih (e + 1) (by omega)
        · have z2 : ¬ f e < 0 := by first | exact absurd c_22 z | exact Int64.not_lt.mpr c_32
          rw [if_neg (by rw [decide_eq_false z2]; simp)]
          exact ih (e + 1) (by omega)
      · refine r_iload_1 dX6_edgeToTurn_36 ?_
        refine r_iret dX6_edgeToTurn_37 rfl ?_
        exact ⟨by rw [if_pos (by rw [decide_eq_true c_22, decide_eq_true (Int64.not_le.mp c_32)]; rfl)]; rfl, rfl⟩

/-- edgeToTurn answers the specification's turn -/
theorem turn_eq {t : NT} (ok : okT t) (sh : Int32) : (match fnd (fun e => decide (¬ NT.kd t e = 0) && decide ((flS (snOf t) sh 60).1 e < 0)) 0 (NT.E t) with | some x => some x | none => fnd (fun e => bt sh e && ((trS (snOf t) sh).2.2.2 (NT.fi t e) && (!(trS (snOf t) sh).2.2.2 (NT.se t e) || decide (hdS (snOf t) sh (NT.se t e) < hdS (snOf t) sh (NT.fi t e) - lsT t e 0)))) 0 (NT.E t)) = turnS (snOf t) sh := by
  have h1 : fnd (fun e => decide (¬ NT.kd t e = 0) && decide ((flS (snOf t) sh 60).1 e < 0)) 0 (NT.E t) = wrongS (snOf t) sh := by
    refine fnd_cong (fun e _ he => ?_)
    have he : e < NT.E t := by omega
    show (decide (¬ NT.kd t e = 0) && decide ((flS (snOf t) sh 60).1 e < 0)) = (decide (¬ NT.kd t e = 0) && (opS (snOf t) sh e && (trS (snOf t) sh).2.2.2 (NT.fi t e) && decide ((flS (snOf t) sh 60).1 e < 0)))
    have lv := (ok.ok.fl sh (Nat.le_refl 60)).2.1 e
    simp only [gl] at lv
    rw [decide_eq_true (show e < SN.E (snOf t) from he)] at lv
    cases q : (opS (snOf t) sh e && (trS (snOf t) sh).2.2.2 (NT.fi t e)) with
    | true => rw [Bool.true_and]
    | false =>
      have := lv (by rw [Bool.true_and]; exact q)
      rw [this]
      rw [show decide ((0 : Int64) < 0) = false by decide]; simp
  have h2 : fnd (fun e => bt sh e && ((trS (snOf t) sh).2.2.2 (NT.fi t e) && (!(trS (snOf t) sh).2.2.2 (NT.se t e) || decide (hdS (snOf t) sh (NT.se t e) < hdS (snOf t) sh (NT.fi t e) - lsT t e 0)))) 0 (NT.E t) = rightS (snOf t) sh := by
    refine fnd_cong (fun e _ he => ?_)
    rw [← Bool.and_assoc]
    rfl
  rw [h1, h2]
  rfl
set_option maxRecDepth 100000 in
set_option maxHeartbeats 4000000 in
theorem k_edgeToTurn {w : Nat} (hW : isW w) {t : NT} (ok : okT t) (sh : Int32) {h : PH} (nc : NetC h (w + 1) t) (tc : TreeC h (w + 11) (NT.fi t) (NT.se t) (trS (snOf t) sh)) (hh : ∀ i, i < (trS (snOf t) sh).1 → h.2 (w + 23) ((trS (snOf t) sh).2.1 i) = hdS (snOf t) sh ((trS (snOf t) sh).2.1 i)) (hs : h.1 w 9 = sh) (hf : ∀ e, e < 14 → h.2 (w + 22) e = (flS (snOf t) sh 60).1 e) : ConF mX6_edgeToTurn 3 [.ref w] h (some (.int (oI (turnS (snOf t) sh)))) h := by
  refine Con.mk (by decide) ?_
  show RT _ _ 0 [some (.ref w), none] [] _ _
  refine r_iconst (v := nI 0) dX6_edgeToTurn_0 (by decide) ?_
  refine r_istore_1 dX6_edgeToTurn_1 ?_
  rw [← turn_eq ok sh]
  exact turn1 hW ok sh nc tc (hdS (snOf t) sh) hh hs _ hf (NT.E t) 0 (by omega)

def rlo (h : PH) (w R : Nat) (o : Option Nat) : Nat := match o with | some r => (20 - R - 1) / (R + 1 - r) * (R + 1 - r) | none => 0
set_option maxRecDepth 100000 in
set_option maxHeartbeats 4000000 in
theorem rlo_loop {w : Nat} (hW : isW w) {h : PH} {R : Nat} (hR : R ≤ 19) (hr : h.1 w 10 = nI R) : ∀ (m r : Nat), r + m = R + 1 → RT mX6_roundsToLeaveOut 1 2 [some (.ref w), some (.int (nI r)), none] [] h (fun a b => a = some (.int (nI (rlo h w R (fnd (fun r => decide (h.1 (w + 26) r = h.1 w 9)) r m)))) ∧ b = h) := by
  intro m
  induction m with
  | zero =>
    intro r hm
    refine r_iload_1 dX6_roundsToLeaveOut_2 ?_
    refine r_aload_0 dX6_roundsToLeaveOut_3 ?_
    refine r_getI dX6_roundsToLeaveOut_4 fl_X6_53 (hW.s 0 (by decide)) ?_
    rw [hr]
    refine r_icmpN_gt 56 dX6_roundsToLeaveOut_7 (by decide) (by omega) (by omega) (fun c_7 => ?_) (fun c_7 => by omega)
    refine r_iconst (v := 0) dX6_roundsToLeaveOut_56 (by decide) ?_
    refine r_iret dX6_roundsToLeaveOut_57 rfl ?_
    exact ⟨rfl, rfl⟩
  | succ m ih =>
    intro r hm
    rw [fnd_s]
    refine r_iload_1 dX6_roundsToLeaveOut_2 ?_
    refine r_aload_0 dX6_roundsToLeaveOut_3 ?_
    refine r_getI dX6_roundsToLeaveOut_4 fl_X6_53 (hW.s 0 (by decide)) ?_
    rw [hr]
    refine r_icmpN_gt 56 dX6_roundsToLeaveOut_7 (by decide) (by omega) (by omega) (fun c_7 => by omega) (fun c_7 => ?_)
    refine r_aload_0 dX6_roundsToLeaveOut_10 ?_
    refine r_getI dX6_roundsToLeaveOut_11 fl_X6_53 (hW.s 0 (by decide)) ?_
    rw [hr]
    refine r_iconst (v := nI 1) dX6_roundsToLeaveOut_14 (by decide) ?_
    refine r_iadd dX6_roundsToLeaveOut_15 ?_
    rw [nI_add]
    refine r_iload_1 dX6_roundsToLeaveOut_16 ?_
    refine r_isub dX6_roundsToLeaveOut_17 ?_
    rw [pk_sub (by omega)]
    refine r_istore_2 dX6_roundsToLeaveOut_18 ?_
    refine r_aload_0 dX6_roundsToLeaveOut_19 ?_
    refine r_getR (a := (w + 26)) dX6_roundsToLeaveOut_20 fl_X6_45 (hW.s 0 (by decide)) rfl ?_
    refine r_iload_1 dX6_roundsToLeaveOut_23 ?_
    refine r_ialdN dX6_roundsToLeaveOut_24 (hW.s 26 (by decide)) (by omega) ?_
    refine r_aload_0 dX6_roundsToLeaveOut_25 ?_
    refine r_getI dX6_roundsToLeaveOut_26 fl_X6_49 (hW.s 0 (by decide)) ?_
    refine r_icmp_ne 50 dX6_roundsToLeaveOut_29 (by decide) (fun c_29 => ?_) (fun c_29 => ?_)
    · refine r_iincN_1 dX6_roundsToLeaveOut_50 ?_
      refine r_goto 2 dX6_roundsToLeaveOut_53 (by decide) ?_
      refine RT.sub (lv' := [some (.ref w), some (.int (nI (r + 1))), none]) (by simp [lsub]) ?_
      rw [if_neg (by rw [decide_eq_false c_29]; simp)]
      exact ih (r + 1) (by omega)
    · refine r_iload_2 dX6_roundsToLeaveOut_32 ?_
      refine r_if_le 50 dX6_roundsToLeaveOut_33 (by decide) (fun c_33 => by exact absurd c_33 (nI_nle (by omega) (by omega))) (fun c_33 => ?_)
      refine r_bipush (v := nI 20) dX6_roundsToLeaveOut_36 (by decide) ?_
      refine r_aload_0 dX6_roundsToLeaveOut_38 ?_
      refine r_getI dX6_roundsToLeaveOut_39 fl_X6_53 (hW.s 0 (by decide)) ?_
      rw [hr]
      refine r_isub dX6_roundsToLeaveOut_42 ?_
      rw [pk_sub (by omega)]
      refine r_iconst (v := nI 1) dX6_roundsToLeaveOut_43 (by decide) ?_
      refine r_isub dX6_roundsToLeaveOut_44 ?_
      rw [pk_sub (by omega)]
      refine r_iload_2 dX6_roundsToLeaveOut_45 ?_
      refine r_idiv dX6_roundsToLeaveOut_46 (nI_ne0 (by omega) (by omega)) ?_
      rw [pk_div (by omega) (by omega) (by omega)]
      refine r_iload_2 dX6_roundsToLeaveOut_47 ?_
      refine r_imul dX6_roundsToLeaveOut_48 ?_
      rw [pk_mul]
      refine r_iret dX6_roundsToLeaveOut_49 rfl ?_
      exact ⟨by rw [if_pos (by rw [decide_eq_true c_29])]; rfl, rfl⟩

set_option maxRecDepth 100000 in
set_option maxHeartbeats 4000000 in
theorem k_roundsToLeaveOut {w : Nat} (hW : isW w) {h : PH} {R : Nat} (hR : R ≤ 19) (hr : h.1 w 10 = nI R) : ConF mX6_roundsToLeaveOut 1 [.ref w] h (some (.int (nI (rlo h w R (fnd (fun r => decide (h.1 (w + 26) r = h.1 w 9)) 1 R))))) h := by
  refine Con.mk (by decide) ?_
  show RT _ _ 0 [some (.ref w), none, none] [] _ _
  refine r_iconst (v := nI 1) dX6_roundsToLeaveOut_0 (by decide) ?_
  refine r_istore_1 dX6_roundsToLeaveOut_1 ?_
  exact rlo_loop hW hR hr R 1 (by omega)

