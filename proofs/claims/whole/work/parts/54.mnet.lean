/-! ===== the reference: laysHeads, wrongWay, rightWay, laysNet ===== -/
set_option maxRecDepth 100000 in
set_option maxHeartbeats 4000000 in
theorem mheads {t : NT} (ok : okT t) (sh : Int32) (f : FL) {h0 : PH} (nc : NetM h0 t) (tc : TreeM h0 (trS (snOf t) sh)) (hf : ∀ e, e < 14 → h0.2 87 e = f e) : ∀ (m k : Nat) (h : PH), k + 1 + m = (trS (snOf t) sh).1 → (∀ i, i ≤ k → h.2 91 ((trS (snOf t) sh).2.1 i) = hdL (NT.fi t) (NT.se t) (lsT t) (trS (snOf t) sh) f (100 * (NT.wh t).toInt64) k ((trS (snOf t) sh).2.1 i)) → h.1 = h0.1 → Fr (fun y => y = 91) h0 h → RT mX8_laysHeads 3 19 [some (.ref 74), some (.int (nI (k + 1))), none, none, none, none] [] h (fun a h' => a = none ∧ ((∀ i, i < (trS (snOf t) sh).1 → h'.2 91 ((trS (snOf t) sh).2.1 i) = hdL (NT.fi t) (NT.se t) (lsT t) (trS (snOf t) sh) f (100 * (NT.wh t).toInt64) ((trS (snOf t) sh).1 - 1) ((trS (snOf t) sh).2.1 i)) ∧ h'.1 = h0.1 ∧ Fr (fun y => y = 91) h0 h')) := by
  have hE14 := ok.2.2.1
  have tw := ok.tw sh
  have h9 := tw.le
  intro m
  induction m with
  | zero =>
    intro k h hk hd e1 fr
    refine r_iload_1 dX8_laysHeads_19 ?_
    refine r_aload_0 dX8_laysHeads_20 ?_
    refine r_getI dX8_laysHeads_21 fl_X8_278 rfl ?_
    rw [e1, tc.2.1]
    refine r_icmpN_ge 95 dX8_laysHeads_24 (by decide) (by omega) (by omega) (fun c_24 => ?_) (fun c_24 => by omega)
    refine r_vret dX8_laysHeads_95 rfl ?_
    exact ⟨rfl, fun i hi => by rw [show (trS (snOf t) sh).1 - 1 = k by omega]; exact hd i (by omega), e1, fr⟩
  | succ m ih =>
    intro k h hk hd e1 fr
    have hk1 : k + 1 < (trS (snOf t) sh).1 := by omega
    obtain ⟨kp, hkp, hup, hpe, -⟩ := tw.up ok.ends ok.2.2.1 (show 0 < k + 1 by omega) hk1
    have hj := (tw.1 (k + 1) hk1).2
    have hj9 := (tw.1 (k + 1) hk1).1
    have hj0 : (trS (snOf t) sh).2.1 (k + 1) ≠ 0 := fun q => by have := tw.2.1 (k + 1) 0 hk1 tw.2.2.2.1.1 (q.trans tw.2.2.2.1.2.symm); omega
    have nc1 : NetM h t := nc.ext e1
    have tc1 : TreeM h (trS (snOf t) sh) := tc.ex1 e1
    have ta := tc1.at tw ok.ends ok.2.2.1 hj hj0
    have hq := tc1.2.2.1 (k + 1) hk1
    have hu9 := (tw.1 kp (by omega)).1
    have hdu := hd kp (by omega)
    rw [← hup] at hu9 hdu
    have hfe : h.2 87 (pe (trS (snOf t) sh) ((trS (snOf t) sh).2.1 (k + 1))) = f (pe (trS (snOf t) sh) ((trS (snOf t) sh).2.1 (k + 1))) := by rw [(fr 87 (fun z => absurd z (by omega))).2]; exact hf _ (by omega)
    obtain ⟨ee1, ee2, ee3⟩ := ok.ends _ hpe
    have n2 := (nc1.2.2.2.2.2.2 _ hpe).2.1
    refine r_iload_1 dX8_laysHeads_19 ?_
    refine r_aload_0 dX8_laysHeads_20 ?_
    refine r_getI dX8_laysHeads_21 fl_X8_278 rfl ?_
    rw [e1, tc.2.1]
    refine r_icmpN_ge 95 dX8_laysHeads_24 (by decide) (by omega) (by omega) (fun c_24 => by omega) (fun c_24 => ?_)
    refine r_aload_0 dX8_laysHeads_27 ?_
    refine r_getR (a := 86) dX8_laysHeads_28 fl_X8_49 rfl rfl ?_
    refine r_iload_1 dX8_laysHeads_31 ?_
    refine r_ialdN dX8_laysHeads_32 rfl (by omega) ?_
    rw [hq]
    refine r_istore_2 dX8_laysHeads_33 ?_
    refine r_aload_0 dX8_laysHeads_34 ?_
    refine r_getR (a := 85) dX8_laysHeads_35 fl_X8_46 rfl rfl ?_
    refine r_iload_2 dX8_laysHeads_38 ?_
    refine r_ialdN dX8_laysHeads_39 rfl (by omega) ?_
    rw [ta]
    refine r_istore_3 dX8_laysHeads_40 ?_
    refine r_aload_0 dX8_laysHeads_41 ?_
    refine r_iload_3 dX8_laysHeads_42 ?_
    refine r_aload_0 dX8_laysHeads_43 ?_
    refine r_getR (a := 87) dX8_laysHeads_44 fl_X8_52 rfl rfl ?_
    refine r_iload_3 dX8_laysHeads_47 ?_
    refine r_laldN dX8_laysHeads_48 rfl (by omega) ?_
    rw [hfe]
    refine r_cV2 mX8_lossOf dX8_laysHeads_49 ml_X8_324 mo_X8_lossOf rfl (q_lossOf ok nc1 hpe _) (by decide) ?_
    refine r_lstore_4 dX8_laysHeads_52 ?_
    refine r_aload_0 dX8_laysHeads_54 ?_
    refine r_getR (a := 91) dX8_laysHeads_55 fl_X8_65 rfl rfl ?_
    refine r_iload_2 dX8_laysHeads_58 ?_
    refine r_aload_0 dX8_laysHeads_59 ?_
    refine r_getR (a := 91) dX8_laysHeads_60 fl_X8_65 rfl rfl ?_
    refine r_aload_0 dX8_laysHeads_63 ?_
    refine r_iload_2 dX8_laysHeads_64 ?_
    refine r_cV1 mX8_above dX8_laysHeads_65 ml_X8_285 mo_X8_above rfl (q_above ok nc1 tw tc1 hj hj0) (by decide) ?_
    refine r_laldN dX8_laysHeads_68 rfl (by omega) ?_
    rw [hdu]
    refine r_aload_0 dX8_laysHeads_69 ?_
    refine r_getR (a := 80) dX8_laysHeads_70 fl_X8_31 rfl rfl ?_
    refine r_iload_3 dX8_laysHeads_73 ?_
    refine r_ialdN dX8_laysHeads_74 rfl (by omega) ?_
    rw [n2]
    refine r_iload_2 dX8_laysHeads_75 ?_
    refine r_icmpN_ne 84 dX8_laysHeads_76 (by decide) (by omega) (by omega) (fun c_76 => ?_) (fun c_76 => ?_)
    · refine r_lload_4 dX8_laysHeads_84 ?_
      refine r_lneg dX8_laysHeads_86 ?_
      refine r_lsub dX8_laysHeads_87 ?_
      refine r_lastN dX8_laysHeads_88 rfl (by omega) ?_
      refine r_iincN_1 dX8_laysHeads_89 ?_
      refine r_goto 19 dX8_laysHeads_92 (by decide) ?_
      refine RT.sub (lv' := [some (.ref 74), some (.int (nI (k + 1 + 1))), none, none, none, none]) (by simp [lsub]) ?_
      refine ih (k + 1) _ (by omega) (fun i hi => ?_) e1 (fr.pL rfl)
      show _ = fupd _ _ _ _
      simp (decide := true) only [pI_1, pI_2, pL_1, pL_2, pA_1, pA_2, pB_1, pB_2, Nat.add_left_cancel_iff, Nat.add_right_cancel_iff, Nat.add_eq_left, Nat.left_eq_add, true_and, false_and, and_false, and_true, and_self, if_true, if_false, ite_true, ite_false]
      by_cases q : (trS (snOf t) sh).2.1 i = (trS (snOf t) sh).2.1 (k + 1)
      · rw [if_pos q, q, fupd_s]
        simp [c_76]
      · rw [if_neg q, fupd_n q]
        refine hd i (Nat.le_of_lt_succ (Nat.lt_of_le_of_ne hi (fun z => q (by rw [z]))))
    · refine r_lload_4 dX8_laysHeads_79 ?_
      refine r_goto 87 dX8_laysHeads_81 (by decide) ?_
      refine r_lsub dX8_laysHeads_87 ?_
      refine r_lastN dX8_laysHeads_88 rfl (by omega) ?_
      refine r_iincN_1 dX8_laysHeads_89 ?_
      refine r_goto 19 dX8_laysHeads_92 (by decide) ?_
      refine RT.sub (lv' := [some (.ref 74), some (.int (nI (k + 1 + 1))), none, none, none, none]) (by simp [lsub]) ?_
      refine ih (k + 1) _ (by omega) (fun i hi => ?_) e1 (fr.pL rfl)
      show _ = fupd _ _ _ _
      simp (decide := true) only [pI_1, pI_2, pL_1, pL_2, pA_1, pA_2, pB_1, pB_2, Nat.add_left_cancel_iff, Nat.add_right_cancel_iff, Nat.add_eq_left, Nat.left_eq_add, true_and, false_and, and_false, and_true, and_self, if_true, if_false, ite_true, ite_false]
      by_cases q : (trS (snOf t) sh).2.1 i = (trS (snOf t) sh).2.1 (k + 1)
      · rw [if_pos q, q, fupd_s]
        simp [c_76]
      · rw [if_neg q, fupd_n q]
        refine hd i (Nat.le_of_lt_succ (Nat.lt_of_le_of_ne hi (fun z => q (by rw [z]))))

set_option maxRecDepth 100000 in
set_option maxHeartbeats 4000000 in
theorem q_laysHeads {t : NT} (ok : okT t) (sh : Int32) (f : FL) {h : PH} (nc : NetM h t) (tc : TreeM h (trS (snOf t) sh)) (hf : ∀ e, e < 14 → h.2 87 e = f e) : Con mX8_laysHeads 3 [.ref 74] h (fun a h' => a = none ∧ ((∀ i, i < (trS (snOf t) sh).1 → h'.2 91 ((trS (snOf t) sh).2.1 i) = hdL (NT.fi t) (NT.se t) (lsT t) (trS (snOf t) sh) f (100 * (NT.wh t).toInt64) ((trS (snOf t) sh).1 - 1) ((trS (snOf t) sh).2.1 i)) ∧ h'.1 = h.1 ∧ Fr (fun y => y = 91) h h')) := by
  refine Con.mk (by decide) ?_
  show RT _ _ 0 [some (.ref 74), none, none, none, none, none] [] _ _
  refine r_aload_0 dX8_laysHeads_0 ?_
  refine r_getR (a := 91) dX8_laysHeads_1 fl_X8_65 rfl rfl ?_
  refine r_iconst (v := nI 0) dX8_laysHeads_4 (by decide) ?_
  refine r_ldc2 dX8_laysHeads_5 ks_X8_306 ?_
  refine r_aload_0 dX8_laysHeads_8 ?_
  refine r_getR (a := 76) dX8_laysHeads_9 fl_X8_19 rfl rfl ?_
  refine r_iconst (v := nI 0) dX8_laysHeads_12 (by decide) ?_
  refine r_ialdN dX8_laysHeads_13 rfl (by omega) ?_
  rw [nc.2.2.1]
  refine r_i2l dX8_laysHeads_14 ?_
  refine r_lmul dX8_laysHeads_15 ?_
  refine r_lastN dX8_laysHeads_16 rfl (by omega) ?_
  refine r_iconst (v := nI 1) dX8_laysHeads_17 (by decide) ?_
  refine r_istore_1 dX8_laysHeads_18 ?_
  have tw := ok.tw sh
  have h9 := tw.le
  have hL := mheads ok sh f (h0 := pL h 91 0 (100 * (NT.wh t).toInt64)) (nc.ext rfl) (tc.ex1 rfl) (fun e he => by simp (decide := true) only [pI_1, pI_2, pL_1, pL_2, pA_1, pA_2, pB_1, pB_2, Nat.add_left_cancel_iff, Nat.add_right_cancel_iff, Nat.add_eq_left, Nat.left_eq_add, true_and, false_and, and_false, and_true, and_self, if_true, if_false, ite_true, ite_false]; exact hf e he) ((trS (snOf t) sh).1 - 1) 0 _ (by have := tw.2.2.2.1.1; omega) (fun i hi => ?_) rfl Fr.rf
  · exact hL.imp (fun a b q => ⟨q.1, q.2.1, q.2.2.1, Fr.tr (S := fun y => y = 91) (Fr.pL (S := fun y => y = 91) Fr.rf rfl) q.2.2.2⟩)
  · have : i = 0 := by omega
    subst this
    rw [tw.2.2.2.1.2]; exact pL_eq

set_option maxRecDepth 100000 in
set_option maxHeartbeats 4000000 in
theorem mwrong {t : NT} (ok : okT t) (sh : Int32) {h : PH} (nc : NetM h t) (tc : TreeM h (trS (snOf t) sh)) (hs : h.1 74 28 = sh) (f : FL) (hf : ∀ e, e < 14 → h.2 87 e = f e) : ∀ (m e : Nat), e + m = NT.E t → RT mX8_wrongWay 3 2 [some (.ref 74), some (.int (nI e))] [] h (fun a b => a = some (.int (oI (fnd (fun e => decide (¬ NT.kd t e = 0) && ((opS (snOf t) sh e && (trS (snOf t) sh).2.2.2 (NT.fi t e)) && decide (f e < 0))) e m))) ∧ b = h) := by
  have hE14 := ok.2.2.1
  intro m
  induction m with
  | zero =>
    intro e he
    refine r_iload_1 dX8_wrongWay_2 ?_
    refine r_aload_0 dX8_wrongWay_3 ?_
    refine r_getI dX8_wrongWay_4 fl_X8_232 rfl ?_
    rw [nc.2.1]
    refine r_icmpN_ge 46 dX8_wrongWay_7 (by decide) (by omega) (by omega) (fun c_7 => ?_) (fun c_7 => by omega)
    refine r_iconst (v := (-1)) dX8_wrongWay_46 (by decide) ?_
    refine r_iret dX8_wrongWay_47 rfl ?_
    exact ⟨rfl, rfl⟩
  | succ m ih =>
    intro e he
    have hee : e < NT.E t := by omega
    obtain ⟨n1, n2, n3, n4, n5, n6⟩ := nc.2.2.2.2.2.2 e hee
    obtain ⟨ee1, ee2, ee3⟩ := ok.ends e hee
    have hmt := tc.1 (NT.fi t e) (by omega)
    rw [fnd_s]
    refine r_iload_1 dX8_wrongWay_2 ?_
    refine r_aload_0 dX8_wrongWay_3 ?_
    refine r_getI dX8_wrongWay_4 fl_X8_232 rfl ?_
    rw [nc.2.1]
    refine r_icmpN_ge 46 dX8_wrongWay_7 (by decide) (by omega) (by omega) (fun c_7 => by omega) (fun c_7 => ?_)
    refine r_aload_0 dX8_wrongWay_10 ?_
    refine r_getR (a := 81) dX8_wrongWay_11 fl_X8_34 rfl rfl ?_
    refine r_iload_1 dX8_wrongWay_14 ?_
    refine r_ialdN dX8_wrongWay_15 rfl (by omega) ?_
    rw [n3]
    refine r_if_eq 40 dX8_wrongWay_16 (by decide) (fun c_16 => ?_) (fun c_16 => ?_)
    · refine r_iincN_1 dX8_wrongWay_40 ?_
      refine r_goto 2 dX8_wrongWay_43 (by decide) ?_
      have hz : (decide (¬ NT.kd t e = 0) && ((opS (snOf t) sh e && (trS (snOf t) sh).2.2.2 (NT.fi t e)) && decide (f e < 0))) = false := by
        by_cases z : NT.kd t e = 0
        · rw [decide_eq_false (fun q => q z)]; rfl
        · first
          | exact absurd c_16 z
          | (rw [decide_eq_false (Int64.not_lt.mpr c_34)]; simp; done)
          | (rw [show (opS (snOf t) sh e && (trS (snOf t) sh).2.2.2 (NT.fi t e)) = false by (cases q : (opS (snOf t) sh e && (trS (snOf t) sh).2.2.2 (NT.fi t e)) with | false => rfl | true => exact absurd c_24 (by rw [q]; decide))]; simp; done)
      rw [if_neg (by rw [hz]; decide)]
      exact ih (e + 1) (by omega)
    · refine r_aload_0 dX8_wrongWay_19 ?_
      refine r_iload_1 dX8_wrongWay_20 ?_
      refine r_cV1 mX8_isLive dX8_wrongWay_21 ml_X8_275 mo_X8_isLive rfl (q_isLive ok nc hee) (by decide) ?_
      rw [hs, hmt]
      refine r_if_eq 40 dX8_wrongWay_24 (by decide) (fun c_24 => ?_) (fun c_24 => ?_)
      · refine r_iincN_1 dX8_wrongWay_40 ?_
        refine r_goto 2 dX8_wrongWay_43 (by decide) ?_
        have hz : (decide (¬ NT.kd t e = 0) && ((opS (snOf t) sh e && (trS (snOf t) sh).2.2.2 (NT.fi t e)) && decide (f e < 0))) = false := by
          by_cases z : NT.kd t e = 0
          · rw [decide_eq_false (fun q => q z)]; rfl
          · first
            | exact absurd c_16 z
            | (rw [decide_eq_false (Int64.not_lt.mpr c_34)]; simp; done)
            | (rw [show (opS (snOf t) sh e && (trS (snOf t) sh).2.2.2 (NT.fi t e)) = false by (cases q : (opS (snOf t) sh e && (trS (snOf t) sh).2.2.2 (NT.fi t e)) with | false => rfl | true => exact absurd c_24 (by rw [q]; decide))]; simp; done)
        rw [if_neg (by rw [hz]; decide)]
        exact ih (e + 1) (by omega)
      · refine r_aload_0 dX8_wrongWay_27 ?_
        refine r_getR (a := 87) dX8_wrongWay_28 fl_X8_52 rfl rfl ?_
        refine r_iload_1 dX8_wrongWay_31 ?_
        refine r_laldN dX8_wrongWay_32 rfl (by omega) ?_
        rw [hf e (by omega)]
        refine r_lconst (v := 0) dX8_wrongWay_33 (by decide) ?_
        refine r_lif_ge 40 dX8_wrongWay_34 dX8_wrongWay_35 (by decide) (fun c_34 => ?_) (fun c_34 => ?_)
        · refine r_iincN_1 dX8_wrongWay_40 ?_
          refine r_goto 2 dX8_wrongWay_43 (by decide) ?_
          have hz : (decide (¬ NT.kd t e = 0) && ((opS (snOf t) sh e && (trS (snOf t) sh).2.2.2 (NT.fi t e)) && decide (f e < 0))) = false := by
            by_cases z : NT.kd t e = 0
            · rw [decide_eq_false (fun q => q z)]; rfl
            · first
              | exact absurd c_16 z
              | (rw [decide_eq_false (Int64.not_lt.mpr c_34)]; simp; done)
              | (rw [show (opS (snOf t) sh e && (trS (snOf t) sh).2.2.2 (NT.fi t e)) = false by (cases q : (opS (snOf t) sh e && (trS (snOf t) sh).2.2.2 (NT.fi t e)) with | false => rfl | true => exact absurd c_24 (by rw [q]; decide))]; simp; done)
          rw [if_neg (by rw [hz]; decide)]
          exact ih (e + 1) (by omega)
        · refine r_iload_1 dX8_wrongWay_38 ?_
          refine r_iret dX8_wrongWay_39 rfl ?_
          have hA : (opS (snOf t) sh e && (trS (snOf t) sh).2.2.2 (NT.fi t e)) = true := by
            cases q : (opS (snOf t) sh e && (trS (snOf t) sh).2.2.2 (NT.fi t e)) with
            | true => rfl
            | false => exact absurd (by rw [q]; rfl) c_24
          exact ⟨by rw [if_pos (by rw [decide_eq_true c_16, hA, decide_eq_true (Int64.not_le.mp c_34)]; rfl)]; rfl, rfl⟩
set_option maxRecDepth 100000 in
set_option maxHeartbeats 4000000 in
theorem q_wrongWay {t : NT} (ok : okT t) (sh : Int32) {h : PH} (nc : NetM h t) (tc : TreeM h (trS (snOf t) sh)) (hs : h.1 74 28 = sh) (hf : ∀ e, e < 14 → h.2 87 e = (flS (snOf t) sh 60).1 e) : ConF mX8_wrongWay 3 [.ref 74] h (some (.int (oI (wrongS (snOf t) sh)))) h := by
  refine Con.mk (by decide) ?_
  show RT _ _ 0 [some (.ref 74), none] [] _ _
  refine r_iconst (v := nI 0) dX8_wrongWay_0 (by decide) ?_
  refine r_istore_1 dX8_wrongWay_1 ?_
  exact mwrong ok sh nc tc hs _ hf (NT.E t) 0 (by omega)

theorem ls0 (t : NT) (e : Nat) : lsT t e 0 = if NT.kd t e = 2 then -(liftS (nI (NT.lc t e)) (NT.lf t e) 0) else 0 := by
  unfold lsT lossS
  by_cases h : NT.kd t e = 2
  · rw [if_pos h, if_pos h]
  · rw [if_neg h, if_neg h, if_neg (by decide), Int64.mul_zero]
theorem fr_p {t : NT} {e : Nat} (h : NT.kd t e = 2) (x : Int64) : x + liftS (nI (NT.lc t e)) (NT.lf t e) 0 = x - lsT t e 0 := by
  rw [ls0, if_pos h, Int64.sub_eq_add_neg, Int64.neg_neg]
theorem fr_n {t : NT} {e : Nat} (h : ¬ NT.kd t e = 2) (x : Int64) : x + 0 = x - lsT t e 0 := by
  rw [ls0, if_neg h, Int64.sub_zero, Int64.add_zero]
set_option maxRecDepth 100000 in
set_option maxHeartbeats 4000000 in
theorem mright {t : NT} (ok : okT t) (sh : Int32) {h : PH} (nc : NetM h t) (tc : TreeM h (trS (snOf t) sh)) (hs : h.1 74 28 = sh) (hd : FL) (hh : ∀ i, i < (trS (snOf t) sh).1 → h.2 91 ((trS (snOf t) sh).2.1 i) = hd ((trS (snOf t) sh).2.1 i)) : ∀ (m e : Nat), e + m = NT.E t → RT mX8_rightWay 2 2 [some (.ref 74), some (.int (nI e)), none, none] [] h (fun a b => a = some (.int (oI (fnd (fun e => bt sh e && (trS (snOf t) sh).2.2.2 (NT.fi t e) && (!(trS (snOf t) sh).2.2.2 (NT.se t e) || decide (hd (NT.se t e) < hd (NT.fi t e) - lsT t e 0))) e m))) ∧ b = h) := by
  have hE14 := ok.2.2.1
  have tw := ok.tw sh
  intro m
  induction m with
  | zero =>
    intro e he
    refine r_iload_1 dX8_rightWay_2 ?_
    refine r_aload_0 dX8_rightWay_3 ?_
    refine r_getI dX8_rightWay_4 fl_X8_232 rfl ?_
    rw [nc.2.1]
    refine r_icmpN_ge 105 dX8_rightWay_7 (by decide) (by omega) (by omega) (fun c_7 => ?_) (fun c_7 => by omega)
    refine r_iconst (v := (-1)) dX8_rightWay_105 (by decide) ?_
    refine r_iret dX8_rightWay_106 rfl ?_
    exact ⟨rfl, rfl⟩
  | succ m ih =>
    intro e he
    have hee : e < NT.E t := by omega
    obtain ⟨n1, n2, n3, n4, n5, n6⟩ := nc.2.2.2.2.2.2 e hee
    obtain ⟨ee1, ee2, ee3⟩ := ok.ends e hee
    have hm : ∀ j, (trS (snOf t) sh).2.2.2 j = true → h.2 91 j = hd j := fun j hj => by
      obtain ⟨i, hi, rfl, -⟩ := tw.at hj
      exact hh i hi
    rw [fnd_s]
    by_cases hb : bt sh e = true
    · cases mf : (trS (snOf t) sh).2.2.2 (NT.fi t e)
      · refine r_iload_1 dX8_rightWay_2 ?_
        refine r_aload_0 dX8_rightWay_3 ?_
        refine r_getI dX8_rightWay_4 fl_X8_232 rfl ?_
        rw [nc.2.1]
        refine r_icmpN_ge 105 dX8_rightWay_7 (by decide) (by omega) (by omega) (fun c_7 => by omega) (fun c_7 => ?_)
        refine r_aload_0 dX8_rightWay_10 ?_
        refine r_getI dX8_rightWay_11 fl_X8_263 rfl ?_
        rw [hs]
        refine r_iload_1 dX8_rightWay_14 ?_
        refine r_ishr dX8_rightWay_15 ?_
        refine r_iconst (v := 1) dX8_rightWay_16 (by decide) ?_
        refine r_iand dX8_rightWay_17 ?_
        rw [bit_eq _ (by omega)]
        rw [b2i_t hb]
        refine r_iconst (v := 1) dX8_rightWay_18 (by decide) ?_
        refine r_icmp_ne 99 dX8_rightWay_19 (by decide) (fun c_19 => by exact absurd rfl c_19) (fun c_19 => ?_)
        refine r_aload_0 dX8_rightWay_22 ?_
        refine r_aload_0 dX8_rightWay_23 ?_
        refine r_getR (a := 79) dX8_rightWay_24 fl_X8_28 rfl rfl ?_
        refine r_iload_1 dX8_rightWay_27 ?_
        refine r_ialdN dX8_rightWay_28 rfl (by omega) ?_
        rw [n1]
        refine r_cV1 mX8_isMet dX8_rightWay_29 ml_X8_272 mo_X8_isMet rfl (q_isMet h (j := NT.fi t e) (by omega)) (by decide) ?_
        rw [tc.1 _ (by omega), mf]
        refine r_if_eq 99 dX8_rightWay_32 (by decide) (fun c_32 => ?_) (fun c_32 => by exact absurd rfl c_32)
        refine r_iincN_1 dX8_rightWay_99 ?_
        refine r_goto 2 dX8_rightWay_102 (by decide) ?_
        refine RT.sub (lv' := [some (.ref 74), some (.int (nI (e + 1))), none, none]) (by simp [lsub]) ?_
        rw [if_neg (by simp)]
        exact ih (e + 1) (by omega)
      · cases ms : (trS (snOf t) sh).2.2.2 (NT.se t e)
        · refine r_iload_1 dX8_rightWay_2 ?_
          refine r_aload_0 dX8_rightWay_3 ?_
          refine r_getI dX8_rightWay_4 fl_X8_232 rfl ?_
          rw [nc.2.1]
          refine r_icmpN_ge 105 dX8_rightWay_7 (by decide) (by omega) (by omega) (fun c_7 => by omega) (fun c_7 => ?_)
          refine r_aload_0 dX8_rightWay_10 ?_
          refine r_getI dX8_rightWay_11 fl_X8_263 rfl ?_
          rw [hs]
          refine r_iload_1 dX8_rightWay_14 ?_
          refine r_ishr dX8_rightWay_15 ?_
          refine r_iconst (v := 1) dX8_rightWay_16 (by decide) ?_
          refine r_iand dX8_rightWay_17 ?_
          rw [bit_eq _ (by omega)]
          rw [b2i_t hb]
          refine r_iconst (v := 1) dX8_rightWay_18 (by decide) ?_
          refine r_icmp_ne 99 dX8_rightWay_19 (by decide) (fun c_19 => by exact absurd rfl c_19) (fun c_19 => ?_)
          refine r_aload_0 dX8_rightWay_22 ?_
          refine r_aload_0 dX8_rightWay_23 ?_
          refine r_getR (a := 79) dX8_rightWay_24 fl_X8_28 rfl rfl ?_
          refine r_iload_1 dX8_rightWay_27 ?_
          refine r_ialdN dX8_rightWay_28 rfl (by omega) ?_
          rw [n1]
          refine r_cV1 mX8_isMet dX8_rightWay_29 ml_X8_272 mo_X8_isMet rfl (q_isMet h (j := NT.fi t e) (by omega)) (by decide) ?_
          rw [tc.1 _ (by omega), mf]
          refine r_if_eq 99 dX8_rightWay_32 (by decide) (fun c_32 => by exact absurd c_32 (by decide)) (fun c_32 => ?_)
          refine r_aload_0 dX8_rightWay_35 ?_
          refine r_getR (a := 91) dX8_rightWay_36 fl_X8_65 rfl rfl ?_
          refine r_aload_0 dX8_rightWay_39 ?_
          refine r_getR (a := 79) dX8_rightWay_40 fl_X8_28 rfl rfl ?_
          refine r_iload_1 dX8_rightWay_43 ?_
          refine r_ialdN dX8_rightWay_44 rfl (by omega) ?_
          rw [n1]
          refine r_laldN dX8_rightWay_45 rfl (by omega) ?_
          rw [hm _ mf]
          refine r_aload_0 dX8_rightWay_46 ?_
          refine r_getR (a := 81) dX8_rightWay_47 fl_X8_34 rfl rfl ?_
          refine r_iload_1 dX8_rightWay_50 ?_
          refine r_ialdN dX8_rightWay_51 rfl (by omega) ?_
          rw [n3]
          refine r_iconst (v := 2) dX8_rightWay_52 (by decide) ?_
          refine r_icmp_ne 65 dX8_rightWay_53 (by decide) (fun c_53 => ?_) (fun c_53 => ?_)
          · refine r_lconst (v := 0) dX8_rightWay_65 (by decide) ?_
            refine r_ladd dX8_rightWay_66 ?_
            first | rw [fr_p (t := t) (e := e) c_53] | rw [fr_p (t := t) (e := e) (Decidable.not_not.mp c_53)] | rw [fr_n (t := t) (e := e) c_53]
            refine r_lstore_2 dX8_rightWay_67 ?_
            refine r_aload_0 dX8_rightWay_68 ?_
            refine r_aload_0 dX8_rightWay_69 ?_
            refine r_getR (a := 80) dX8_rightWay_70 fl_X8_31 rfl rfl ?_
            refine r_iload_1 dX8_rightWay_73 ?_
            refine r_ialdN dX8_rightWay_74 rfl (by omega) ?_
            rw [n2]
            refine r_cV1 mX8_isMet dX8_rightWay_75 ml_X8_272 mo_X8_isMet rfl (q_isMet h (j := NT.se t e) (by omega)) (by decide) ?_
            rw [tc.1 _ (by omega), ms]
            refine r_if_eq 97 dX8_rightWay_78 (by decide) (fun c_78 => ?_) (fun c_78 => by exact absurd rfl c_78)
            refine r_iload_1 dX8_rightWay_97 ?_
            refine r_iret dX8_rightWay_98 rfl ?_
            exact ⟨by rw [if_pos (by rw [hb]; rfl)]; rfl, rfl⟩
          · refine r_aload_0 dX8_rightWay_56 ?_
            refine r_iload_1 dX8_rightWay_57 ?_
            refine r_lconst (v := 0) dX8_rightWay_58 (by decide) ?_
            refine r_cV2 mX8_liftOf dX8_rightWay_59 ml_X8_308 mo_X8_liftOf rfl (q_liftOf ok nc hee 0) (by decide) ?_
            refine r_goto 66 dX8_rightWay_62 (by decide) ?_
            refine r_ladd dX8_rightWay_66 ?_
            first | rw [fr_p (t := t) (e := e) c_53] | rw [fr_p (t := t) (e := e) (Decidable.not_not.mp c_53)] | rw [fr_n (t := t) (e := e) c_53]
            refine r_lstore_2 dX8_rightWay_67 ?_
            refine r_aload_0 dX8_rightWay_68 ?_
            refine r_aload_0 dX8_rightWay_69 ?_
            refine r_getR (a := 80) dX8_rightWay_70 fl_X8_31 rfl rfl ?_
            refine r_iload_1 dX8_rightWay_73 ?_
            refine r_ialdN dX8_rightWay_74 rfl (by omega) ?_
            rw [n2]
            refine r_cV1 mX8_isMet dX8_rightWay_75 ml_X8_272 mo_X8_isMet rfl (q_isMet h (j := NT.se t e) (by omega)) (by decide) ?_
            rw [tc.1 _ (by omega), ms]
            refine r_if_eq 97 dX8_rightWay_78 (by decide) (fun c_78 => ?_) (fun c_78 => by exact absurd rfl c_78)
            refine r_iload_1 dX8_rightWay_97 ?_
            refine r_iret dX8_rightWay_98 rfl ?_
            exact ⟨by rw [if_pos (by rw [hb]; rfl)]; rfl, rfl⟩
        · refine r_iload_1 dX8_rightWay_2 ?_
          refine r_aload_0 dX8_rightWay_3 ?_
          refine r_getI dX8_rightWay_4 fl_X8_232 rfl ?_
          rw [nc.2.1]
          refine r_icmpN_ge 105 dX8_rightWay_7 (by decide) (by omega) (by omega) (fun c_7 => by omega) (fun c_7 => ?_)
          refine r_aload_0 dX8_rightWay_10 ?_
          refine r_getI dX8_rightWay_11 fl_X8_263 rfl ?_
          rw [hs]
          refine r_iload_1 dX8_rightWay_14 ?_
          refine r_ishr dX8_rightWay_15 ?_
          refine r_iconst (v := 1) dX8_rightWay_16 (by decide) ?_
          refine r_iand dX8_rightWay_17 ?_
          rw [bit_eq _ (by omega)]
          rw [b2i_t hb]
          refine r_iconst (v := 1) dX8_rightWay_18 (by decide) ?_
          refine r_icmp_ne 99 dX8_rightWay_19 (by decide) (fun c_19 => by exact absurd rfl c_19) (fun c_19 => ?_)
          refine r_aload_0 dX8_rightWay_22 ?_
          refine r_aload_0 dX8_rightWay_23 ?_
          refine r_getR (a := 79) dX8_rightWay_24 fl_X8_28 rfl rfl ?_
          refine r_iload_1 dX8_rightWay_27 ?_
          refine r_ialdN dX8_rightWay_28 rfl (by omega) ?_
          rw [n1]
          refine r_cV1 mX8_isMet dX8_rightWay_29 ml_X8_272 mo_X8_isMet rfl (q_isMet h (j := NT.fi t e) (by omega)) (by decide) ?_
          rw [tc.1 _ (by omega), mf]
          refine r_if_eq 99 dX8_rightWay_32 (by decide) (fun c_32 => by exact absurd c_32 (by decide)) (fun c_32 => ?_)
          refine r_aload_0 dX8_rightWay_35 ?_
          refine r_getR (a := 91) dX8_rightWay_36 fl_X8_65 rfl rfl ?_
          refine r_aload_0 dX8_rightWay_39 ?_
          refine r_getR (a := 79) dX8_rightWay_40 fl_X8_28 rfl rfl ?_
          refine r_iload_1 dX8_rightWay_43 ?_
          refine r_ialdN dX8_rightWay_44 rfl (by omega) ?_
          rw [n1]
          refine r_laldN dX8_rightWay_45 rfl (by omega) ?_
          rw [hm _ mf]
          refine r_aload_0 dX8_rightWay_46 ?_
          refine r_getR (a := 81) dX8_rightWay_47 fl_X8_34 rfl rfl ?_
          refine r_iload_1 dX8_rightWay_50 ?_
          refine r_ialdN dX8_rightWay_51 rfl (by omega) ?_
          rw [n3]
          refine r_iconst (v := 2) dX8_rightWay_52 (by decide) ?_
          refine r_icmp_ne 65 dX8_rightWay_53 (by decide) (fun c_53 => ?_) (fun c_53 => ?_)
          · refine r_lconst (v := 0) dX8_rightWay_65 (by decide) ?_
            refine r_ladd dX8_rightWay_66 ?_
            first | rw [fr_p (t := t) (e := e) c_53] | rw [fr_p (t := t) (e := e) (Decidable.not_not.mp c_53)] | rw [fr_n (t := t) (e := e) c_53]
            refine r_lstore_2 dX8_rightWay_67 ?_
            refine r_aload_0 dX8_rightWay_68 ?_
            refine r_aload_0 dX8_rightWay_69 ?_
            refine r_getR (a := 80) dX8_rightWay_70 fl_X8_31 rfl rfl ?_
            refine r_iload_1 dX8_rightWay_73 ?_
            refine r_ialdN dX8_rightWay_74 rfl (by omega) ?_
            rw [n2]
            refine r_cV1 mX8_isMet dX8_rightWay_75 ml_X8_272 mo_X8_isMet rfl (q_isMet h (j := NT.se t e) (by omega)) (by decide) ?_
            rw [tc.1 _ (by omega), ms]
            refine r_if_eq 97 dX8_rightWay_78 (by decide) (fun c_78 => by exact absurd c_78 (by decide)) (fun c_78 => ?_)
            refine r_aload_0 dX8_rightWay_81 ?_
            refine r_getR (a := 91) dX8_rightWay_82 fl_X8_65 rfl rfl ?_
            refine r_aload_0 dX8_rightWay_85 ?_
            refine r_getR (a := 80) dX8_rightWay_86 fl_X8_31 rfl rfl ?_
            refine r_iload_1 dX8_rightWay_89 ?_
            refine r_ialdN dX8_rightWay_90 rfl (by omega) ?_
            rw [n2]
            refine r_laldN dX8_rightWay_91 rfl (by omega) ?_
            rw [hm _ ms]
            refine r_lload_2 dX8_rightWay_92 ?_
            refine r_lif_ge 99 dX8_rightWay_93 dX8_rightWay_94 (by decide) (fun c_93 => ?_) (fun c_93 => ?_)
            · refine r_iincN_1 dX8_rightWay_99 ?_
              refine r_goto 2 dX8_rightWay_102 (by decide) ?_
              refine RT.sub (lv' := [some (.ref 74), some (.int (nI (e + 1))), none, none]) (by simp [lsub]) ?_
              rw [if_neg (by rw [hb, decide_eq_false (Int64.not_lt.mpr c_93)]; simp)]
              exact ih (e + 1) (by omega)
            · refine r_iload_1 dX8_rightWay_97 ?_
              refine r_iret dX8_rightWay_98 rfl ?_
              exact ⟨by rw [if_pos (by rw [hb, decide_eq_true (Int64.not_le.mp c_93)]; rfl)]; rfl, rfl⟩
          · refine r_aload_0 dX8_rightWay_56 ?_
            refine r_iload_1 dX8_rightWay_57 ?_
            refine r_lconst (v := 0) dX8_rightWay_58 (by decide) ?_
            refine r_cV2 mX8_liftOf dX8_rightWay_59 ml_X8_308 mo_X8_liftOf rfl (q_liftOf ok nc hee 0) (by decide) ?_
            refine r_goto 66 dX8_rightWay_62 (by decide) ?_
            refine r_ladd dX8_rightWay_66 ?_
            first | rw [fr_p (t := t) (e := e) c_53] | rw [fr_p (t := t) (e := e) (Decidable.not_not.mp c_53)] | rw [fr_n (t := t) (e := e) c_53]
            refine r_lstore_2 dX8_rightWay_67 ?_
            refine r_aload_0 dX8_rightWay_68 ?_
            refine r_aload_0 dX8_rightWay_69 ?_
            refine r_getR (a := 80) dX8_rightWay_70 fl_X8_31 rfl rfl ?_
            refine r_iload_1 dX8_rightWay_73 ?_
            refine r_ialdN dX8_rightWay_74 rfl (by omega) ?_
            rw [n2]
            refine r_cV1 mX8_isMet dX8_rightWay_75 ml_X8_272 mo_X8_isMet rfl (q_isMet h (j := NT.se t e) (by omega)) (by decide) ?_
            rw [tc.1 _ (by omega), ms]
            refine r_if_eq 97 dX8_rightWay_78 (by decide) (fun c_78 => by exact absurd c_78 (by decide)) (fun c_78 => ?_)
            refine r_aload_0 dX8_rightWay_81 ?_
            refine r_getR (a := 91) dX8_rightWay_82 fl_X8_65 rfl rfl ?_
            refine r_aload_0 dX8_rightWay_85 ?_
            refine r_getR (a := 80) dX8_rightWay_86 fl_X8_31 rfl rfl ?_
            refine r_iload_1 dX8_rightWay_89 ?_
            refine r_ialdN dX8_rightWay_90 rfl (by omega) ?_
            rw [n2]
            refine r_laldN dX8_rightWay_91 rfl (by omega) ?_
            rw [hm _ ms]
            refine r_lload_2 dX8_rightWay_92 ?_
            refine r_lif_ge 99 dX8_rightWay_93 dX8_rightWay_94 (by decide) (fun c_93 => ?_) (fun c_93 => ?_)
            · refine r_iincN_1 dX8_rightWay_99 ?_
              refine r_goto 2 dX8_rightWay_102 (by decide) ?_
              refine RT.sub (lv' := [some (.ref 74), some (.int (nI (e + 1))), none, none]) (by simp [lsub]) ?_
              rw [if_neg (by rw [hb, decide_eq_false (Int64.not_lt.mpr c_93)]; simp)]
              exact ih (e + 1) (by omega)
            · refine r_iload_1 dX8_rightWay_97 ?_
              refine r_iret dX8_rightWay_98 rfl ?_
              exact ⟨by rw [if_pos (by rw [hb, decide_eq_true (Int64.not_le.mp c_93)]; rfl)]; rfl, rfl⟩
    · refine r_iload_1 dX8_rightWay_2 ?_
      refine r_aload_0 dX8_rightWay_3 ?_
      refine r_getI dX8_rightWay_4 fl_X8_232 rfl ?_
      rw [nc.2.1]
      refine r_icmpN_ge 105 dX8_rightWay_7 (by decide) (by omega) (by omega) (fun c_7 => by omega) (fun c_7 => ?_)
      refine r_aload_0 dX8_rightWay_10 ?_
      refine r_getI dX8_rightWay_11 fl_X8_263 rfl ?_
      rw [hs]
      refine r_iload_1 dX8_rightWay_14 ?_
      refine r_ishr dX8_rightWay_15 ?_
      refine r_iconst (v := 1) dX8_rightWay_16 (by decide) ?_
      refine r_iand dX8_rightWay_17 ?_
      rw [bit_eq _ (by omega)]
      rw [b2i_f hb]
      refine r_iconst (v := 1) dX8_rightWay_18 (by decide) ?_
      refine r_icmp_ne 99 dX8_rightWay_19 (by decide) (fun c_19 => ?_) (fun c_19 => by exact absurd c_19 (by decide))
      refine r_iincN_1 dX8_rightWay_99 ?_
      refine r_goto 2 dX8_rightWay_102 (by decide) ?_
      refine RT.sub (lv' := [some (.ref 74), some (.int (nI (e + 1))), none, none]) (by simp [lsub]) ?_
      rw [if_neg (by rw [show bt sh e = false by simpa using hb]; simp)]
      exact ih (e + 1) (by omega)
set_option maxRecDepth 100000 in
set_option maxHeartbeats 4000000 in
theorem q_rightWay {t : NT} (ok : okT t) (sh : Int32) {h : PH} (nc : NetM h t) (tc : TreeM h (trS (snOf t) sh)) (hs : h.1 74 28 = sh) (hh : ∀ i, i < (trS (snOf t) sh).1 → h.2 91 ((trS (snOf t) sh).2.1 i) = hdS (snOf t) sh ((trS (snOf t) sh).2.1 i)) : ConF mX8_rightWay 2 [.ref 74] h (some (.int (oI (rightS (snOf t) sh)))) h := by
  refine Con.mk (by decide) ?_
  show RT _ _ 0 [some (.ref 74), none, none, none] [] _ _
  refine r_iconst (v := nI 0) dX8_rightWay_0 (by decide) ?_
  refine r_istore_1 dX8_rightWay_1 ?_
  exact mright ok sh nc tc hs _ hh (NT.E t) 0 (by omega)

def lnF : Nat → Prop := fun k => k = 29 ∨ k = 32 ∨ k = 34
theorem lnF_s : ∀ x, lnF x → slF x := fun x q => by unfold lnF at q; unfold slF; omega
theorem tF_l : ∀ x, tF x → lnF x := fun x q => by unfold tF at q; unfold lnF; omega
theorem BEM.fm {F : Nat → Prop} {h h' : PH} (b : BEM h h') : FM slS F h h' := ⟨fun k _ => by rw [b.1], fun y _ hy => b.2 y (fun q => hy (by rcases q with rfl | rfl <;> exact ⟨by decide, by decide⟩)), fun _ => (b.2 74 (by unfold beM; omega)).2⟩
set_option maxRecDepth 100000 in
set_option maxHeartbeats 4000000 in
theorem q_laysNet {t : NT} (ok : okT t) (sh : Int32) {h : PH} (nc : NetM h t) (hs : h.1 74 28 = sh) : Con mX8_laysNet 5 [.ref 74] h (fun a h' => a = none ∧ (TreeM h' (trS (snOf t) sh) ∧ RingsM h' (rgS (snOf t) sh) ∧ (∀ e, e < 14 → h'.2 87 e = bgS (snOf t) sh e) ∧ FM slS lnF h h')) := by
  refine Con.mk (by decide) ?_
  show RT _ _ 0 [some (.ref 74), none] [] _ _
  have tw := ok.tw sh
  refine r_aload_0 dX8_laysNet_0 ?_
  refine r_cWQ0 mX8_laysTree dX8_laysNet_1 ml_X8_351 mo_X8_laysTree rfl (q_laysTree ok sh nc hs) (by decide) (fun h1 p1 => ?_)
  obtain ⟨tc1, f1⟩ := p1
  have nc1 := nc.fm (f1.wk tS_s tF_s)
  have hs1 : h1.1 74 28 = sh := (f1.1 28 (fun q => by rcases q with q | q <;> omega)).trans hs
  refine r_aload_0 dX8_laysNet_4 ?_
  refine r_iconst (v := nI 0) dX8_laysNet_5 (by decide) ?_
  refine r_putI dX8_laysNet_6 fl_X8_288 rfl rfl rfl ?_
  refine r_iconst (v := nI 0) dX8_laysNet_9 (by decide) ?_
  refine r_istore_1 dX8_laysNet_10 ?_
  have fA : FM rgM rgF h1 (pI h1 74 34 (nI 0)) := FM.rf.pF rfl
  refine mnet_loop ok sh tw (fun e he ho => ok.both sh he ho) (pI h1 74 34 (nI 0)) (fun h2 rc2 f2 => ?_) (NT.E t) 0 _ (by omega) (nc1.fm (fA.wk rgM_s rgF_s)) ((fA.1 28 (fun q => absurd (show 28 = 34 from q) (by decide))).trans hs1) (tc1.rg fA (fun q => absurd (show 29 = 34 from q) (by decide)) (fun q => absurd (show 32 = 34 from q) (by decide))) ⟨pI_eq, fun k hk => by simp [ringsS] at hk⟩ FM.rf
  have f12 := fA.tr f2
  have nc2 := nc1.fm (f12.wk rgM_s rgF_s)
  have tc2 : TreeM h2 (trS (snOf t) sh) := tc1.rg f12 (fun q => absurd (show 29 = 34 from q) (by decide)) (fun q => absurd (show 32 = 34 from q) (by decide))
  refine r_aload_0 dX8_laysNet_46 ?_
  refine r_cWQ0 mX8_begins dX8_laysNet_47 ml_X8_360 mo_X8_begins rfl (q_begins ok sh nc2 tc2) (by decide) (fun h3 p3 => ?_)
  obtain ⟨fl3, b3⟩ := p3
  refine r_vret dX8_laysNet_50 rfl ?_
  exact ⟨rfl, tc2.ex1 b3.1, rc2.ex1 b3.1, fl3, ((f1.wk tS_s tF_l).tr (f12.wk rgM_s (fun x q => Or.inr (Or.inr q)))).tr b3.fm⟩

