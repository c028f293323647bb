/-! ===== the reference: reads of the net ===== -/
set_option maxRecDepth 100000 in
set_option maxHeartbeats 4000000 in
theorem q_otherEnd {h : PH} {t : NT} (ok : okT t) (c : NetM h t) {e : Nat} (he : e < NT.E t) {x : Nat} (hx : x < 9) : ConF mX8_otherEnd 1 [.ref 74, .int (nI e), .int (nI x)] h (some (.int (nI (oth (NT.fi t) (NT.se t) e x)))) h := by
  refine Con.mk (by decide) ?_
  show RT _ _ 0 [some (.ref 74), some (.int (nI e)), some (.int (nI x))] [] _ _
  have he14 : e < 14 := by have := ok.2.2.1; omega
  have hk := ok.2.2.2.1 e he
  have hj9 := ok.2.1
  obtain ⟨n1, n2, n3, n4, n5, n6⟩ := c.2.2.2.2.2.2 e he
  refine r_aload_0 dX8_otherEnd_0 ?_
  refine r_getR (a := 79) dX8_otherEnd_1 fl_X8_28 rfl rfl ?_
  refine r_iload_1 dX8_otherEnd_4 ?_
  refine r_ialdN dX8_otherEnd_5 rfl (by omega) ?_
  rw [n1]
  refine r_iload_2 dX8_otherEnd_6 ?_
  refine r_icmpN_ne 19 dX8_otherEnd_7 (by decide) (by omega) (by omega) (fun c_7 => ?_) (fun c_7 => ?_)
  · refine r_aload_0 dX8_otherEnd_19 ?_
    refine r_getR (a := 79) dX8_otherEnd_20 fl_X8_28 rfl rfl ?_
    refine r_iload_1 dX8_otherEnd_23 ?_
    refine r_ialdN dX8_otherEnd_24 rfl (by omega) ?_
    rw [n1]
    refine r_iret dX8_otherEnd_25 rfl ?_
    exact ⟨by simp [oth, *], rfl⟩
  · refine r_aload_0 dX8_otherEnd_10 ?_
    refine r_getR (a := 80) dX8_otherEnd_11 fl_X8_31 rfl rfl ?_
    refine r_iload_1 dX8_otherEnd_14 ?_
    refine r_ialdN dX8_otherEnd_15 rfl (by omega) ?_
    rw [n2]
    refine r_goto 25 dX8_otherEnd_16 (by decide) ?_
    refine r_iret dX8_otherEnd_25 rfl ?_
    exact ⟨by simp [oth, *], rfl⟩

set_option maxRecDepth 100000 in
set_option maxHeartbeats 4000000 in
theorem q_isOpen {h : PH} {t : NT} (c : NetM h t) {e : Nat} (he : e < 32) : ConF mX8_isOpen 1 [.ref 74, .int (nI e)] h (some (.int (bI (opS (snOf t) (h.1 74 28) e)))) h := by
  refine Con.mk (by decide) ?_
  show RT _ _ 0 [some (.ref 74), some (.int (nI e))] [] _ _
  have ho : opS (snOf t) (h.1 74 28) e = (!bt (NT.cl t) e && !bt (h.1 74 28) e) := rfl
  refine r_aload_0 dX8_isOpen_0 ?_
  refine r_getI dX8_isOpen_1 fl_X8_235 rfl ?_
  rw [c.2.2.2.1]
  refine r_iload_1 dX8_isOpen_4 ?_
  refine r_ishr dX8_isOpen_5 ?_
  refine r_iconst (v := 1) dX8_isOpen_6 (by decide) ?_
  refine r_iand dX8_isOpen_7 ?_
  rw [bit_eq _ he]
  refine r_if_ne 26 dX8_isOpen_8 (by decide) (fun c_8 => ?_) (fun c_8 => ?_)
  · refine r_iconst (v := 0) dX8_isOpen_26 (by decide) ?_
    refine r_zret dX8_isOpen_27 rfl rfl ?_
    refine ⟨?_, rfl⟩
    rw [ho]
    cases q1 : bt (NT.cl t) e <;> cases q2 : bt (h.1 74 28) e <;> simp_all [b2i, bI]
  · refine r_aload_0 dX8_isOpen_11 ?_
    refine r_getI dX8_isOpen_12 fl_X8_263 rfl ?_
    refine r_iload_1 dX8_isOpen_15 ?_
    refine r_ishr dX8_isOpen_16 ?_
    refine r_iconst (v := 1) dX8_isOpen_17 (by decide) ?_
    refine r_iand dX8_isOpen_18 ?_
    rw [bit_eq _ he]
    refine r_if_ne 26 dX8_isOpen_19 (by decide) (fun c_19 => ?_) (fun c_19 => ?_)
    · refine r_iconst (v := 0) dX8_isOpen_26 (by decide) ?_
      refine r_zret dX8_isOpen_27 rfl rfl ?_
      refine ⟨?_, rfl⟩
      rw [ho]
      cases q1 : bt (NT.cl t) e <;> cases q2 : bt (h.1 74 28) e <;> simp_all [b2i, bI]
    · refine r_iconst (v := 1) dX8_isOpen_22 (by decide) ?_
      refine r_goto 27 dX8_isOpen_23 (by decide) ?_
      refine r_zret dX8_isOpen_27 rfl rfl ?_
      refine ⟨?_, rfl⟩
      rw [ho]
      cases q1 : bt (NT.cl t) e <;> cases q2 : bt (h.1 74 28) e <;> simp_all [b2i, bI]

set_option maxRecDepth 100000 in
set_option maxHeartbeats 4000000 in
theorem q_isMet (h : PH) {j : Nat} (hj : j < 32) : ConF mX8_isMet 1 [.ref 74, .int (nI j)] h (some (.int (bI (bt (h.1 74 29) j)))) h := by
  refine Con.mk (by decide) ?_
  show RT _ _ 0 [some (.ref 74), some (.int (nI j))] [] _ _
  refine r_aload_0 dX8_isMet_0 ?_
  refine r_getI dX8_isMet_1 fl_X8_266 rfl ?_
  refine r_iload_1 dX8_isMet_4 ?_
  refine r_ishr dX8_isMet_5 ?_
  refine r_iconst (v := 1) dX8_isMet_6 (by decide) ?_
  refine r_iand dX8_isMet_7 ?_
  rw [bit_eq _ hj]
  refine r_iconst (v := 1) dX8_isMet_8 (by decide) ?_
  refine r_icmp_ne 16 dX8_isMet_9 (by decide) (fun c_9 => ?_) (fun c_9 => ?_)
  · refine r_iconst (v := 0) dX8_isMet_16 (by decide) ?_
    refine r_zret dX8_isMet_17 rfl rfl ?_
    refine ⟨?_, rfl⟩
    cases q1 : bt (h.1 74 29) j <;> simp_all [b2i, bI]
  · refine r_iconst (v := 1) dX8_isMet_12 (by decide) ?_
    refine r_goto 17 dX8_isMet_13 (by decide) ?_
    refine r_zret dX8_isMet_17 rfl rfl ?_
    refine ⟨?_, rfl⟩
    cases q1 : bt (h.1 74 29) j <;> simp_all [b2i, bI]

set_option maxRecDepth 100000 in
set_option maxHeartbeats 4000000 in
theorem q_isLive {h : PH} {t : NT} (ok : okT t) (c : NetM h t) {e : Nat} (he : e < NT.E t) : ConF mX8_isLive 2 [.ref 74, .int (nI e)] h (some (.int (bI (opS (snOf t) (h.1 74 28) e && bt (h.1 74 29) (NT.fi t e))))) h := by
  refine Con.mk (by decide) ?_
  show RT _ _ 0 [some (.ref 74), some (.int (nI e))] [] _ _
  have he14 : e < 14 := by have := ok.2.2.1; omega
  have hk := ok.2.2.2.1 e he
  have hj9 := ok.2.1
  obtain ⟨n1, n2, n3, n4, n5, n6⟩ := c.2.2.2.2.2.2 e he
  refine r_aload_0 dX8_isLive_0 ?_
  refine r_iload_1 dX8_isLive_1 ?_
  refine r_cV1 mX8_isOpen dX8_isLive_2 ml_X8_269 mo_X8_isOpen rfl (q_isOpen c (show e < 32 by omega)) (by decide) ?_
  refine r_if_eq 25 dX8_isLive_5 (by decide) (fun c_5 => ?_) (fun c_5 => ?_)
  · refine r_iconst (v := 0) dX8_isLive_25 (by decide) ?_
    refine r_zret dX8_isLive_26 rfl rfl ?_
    refine ⟨?_, rfl⟩
    cases q1 : opS (snOf t) (h.1 74 28) e <;> cases q2 : bt (h.1 74 29) (NT.fi t e) <;> simp_all [bI]
  · refine r_aload_0 dX8_isLive_8 ?_
    refine r_aload_0 dX8_isLive_9 ?_
    refine r_getR (a := 79) dX8_isLive_10 fl_X8_28 rfl rfl ?_
    refine r_iload_1 dX8_isLive_13 ?_
    refine r_ialdN dX8_isLive_14 rfl (by omega) ?_
    rw [n1]
    refine r_cV1 mX8_isMet dX8_isLive_15 ml_X8_272 mo_X8_isMet rfl (q_isMet h (j := NT.fi t e) (by omega)) (by decide) ?_
    refine r_if_eq 25 dX8_isLive_18 (by decide) (fun c_18 => ?_) (fun c_18 => ?_)
    · refine r_iconst (v := 0) dX8_isLive_25 (by decide) ?_
      refine r_zret dX8_isLive_26 rfl rfl ?_
      refine ⟨?_, rfl⟩
      cases q1 : opS (snOf t) (h.1 74 28) e <;> cases q2 : bt (h.1 74 29) (NT.fi t e) <;> simp_all [bI]
    · refine r_iconst (v := 1) dX8_isLive_21 (by decide) ?_
      refine r_goto 26 dX8_isLive_22 (by decide) ?_
      refine r_zret dX8_isLive_26 rfl rfl ?_
      refine ⟨?_, rfl⟩
      cases q1 : opS (snOf t) (h.1 74 28) e <;> cases q2 : bt (h.1 74 29) (NT.fi t e) <;> simp_all [bI]

set_option maxRecDepth 100000 in
set_option maxHeartbeats 4000000 in
theorem q_drawn (h : PH) {j : Nat} (hj : j < 9) : ConF mX8_drawn 1 [.ref 74, .int (nI j)] h (some (.int (drE h j))) h := by
  refine Con.mk (by decide) ?_
  show RT _ _ 0 [some (.ref 74), some (.int (nI j))] [] _ _
  refine r_aload_0 dX8_drawn_0 ?_
  refine r_getR (a := 76) dX8_drawn_1 fl_X8_19 rfl rfl ?_
  refine r_iload_1 dX8_drawn_4 ?_
  refine r_ialdN dX8_drawn_5 rfl (by omega) ?_
  refine r_aload_0 dX8_drawn_6 ?_
  refine r_getI dX8_drawn_7 fl_X8_77 rfl ?_
  refine r_imul dX8_drawn_10 ?_
  refine r_bipush (v := 100) dX8_drawn_11 (by decide) ?_
  refine r_idiv dX8_drawn_13 (by decide) ?_
  refine r_iload_1 dX8_drawn_14 ?_
  refine r_aload_0 dX8_drawn_15 ?_
  refine r_getI dX8_drawn_16 fl_X8_74 rfl ?_
  refine r_icmp_ne 29 dX8_drawn_19 (by decide) (fun c_19 => ?_) (fun c_19 => ?_)
  · refine r_iconst (v := 0) dX8_drawn_29 (by decide) ?_
    refine r_iadd dX8_drawn_30 ?_
    refine r_iret dX8_drawn_31 rfl ?_
    exact ⟨by unfold drE; simp [*], rfl⟩
  · refine r_aload_0 dX8_drawn_22 ?_
    refine r_getI dX8_drawn_23 fl_X8_301 rfl ?_
    refine r_goto 30 dX8_drawn_26 (by decide) ?_
    refine r_iadd dX8_drawn_30 ?_
    refine r_iret dX8_drawn_31 rfl ?_
    exact ⟨by unfold drE; simp [*], rfl⟩

set_option maxRecDepth 100000 in
set_option maxHeartbeats 4000000 in
theorem q_liftOf {h : PH} {t : NT} (ok : okT t) (c : NetM h t) {e : Nat} (he : e < NT.E t) (f : Int64) : ConF mX8_liftOf 1 [.ref 74, .int (nI e), .long f] h (some (.long (liftS (nI (NT.lc t e)) (NT.lf t e) f))) h := by
  refine Con.mk (by decide) ?_
  show RT _ _ 0 [some (.ref 74), some (.int (nI e)), some (.long f), none, none, none] [] _ _
  have he14 : e < 14 := by have := ok.2.2.1; omega
  have hk := ok.2.2.2.1 e he
  have hj9 := ok.2.1
  obtain ⟨n1, n2, n3, n4, n5, n6⟩ := c.2.2.2.2.2.2 e he
  have J : RT mX8_liftOf 1 15 [some (.ref 74), some (.int (nI e)), some (.long f), none, none, none] [.long (kS f)] h (fun a b => a = some (.long (liftS (nI (NT.lc t e)) (NT.lf t e) f)) ∧ b = h) := by
    refine r_lstore_4 dX8_liftOf_15 ?_
    refine r_lload_4 dX8_liftOf_17 ?_
    refine r_aload_0 dX8_liftOf_19 ?_
    refine r_getR (a := 84) dX8_liftOf_20 fl_X8_43 rfl rfl ?_
    refine r_iload_1 dX8_liftOf_23 ?_
    refine r_ialdN dX8_liftOf_24 rfl (by omega) ?_
    rw [n5]
    refine r_i2l dX8_liftOf_25 ?_
    refine r_lif_ge 51 dX8_liftOf_26 dX8_liftOf_27 (by decide) (fun c_26 => ?_) (fun c_26 => ?_)
    · refine r_lconst (v := 0) dX8_liftOf_51 (by decide) ?_
      refine r_lret dX8_liftOf_52 rfl ?_
      exact ⟨by unfold liftS; first | (rw [if_neg (fun q => absurd (Int64.not_le.mpr q) (by simpa using c_26))]; done) | (rw [if_pos (Int64.not_le.mp c_26), k4]; done), rfl⟩
    · refine r_ldc2 dX8_liftOf_30 ks_X8_306 ?_
      refine r_aload_0 dX8_liftOf_33 ?_
      refine r_getR (a := 83) dX8_liftOf_34 fl_X8_40 rfl rfl ?_
      refine r_bipush (v := nI 6) dX8_liftOf_37 (by decide) ?_
      refine r_iload_1 dX8_liftOf_39 ?_
      refine r_imul dX8_liftOf_40 ?_
      refine r_lload_4 dX8_liftOf_41 ?_
      refine r_l2i dX8_liftOf_43 ?_
      refine r_iadd dX8_liftOf_44 ?_
      obtain ⟨k, k1, k2, k3, k4⟩ := kS_lt hk.2.2.2.2.2.1 (Int64.not_le.mp c_26)
      rw [k3, pk_mul, nI_add]
      refine r_ialdN dX8_liftOf_45 rfl (by omega) ?_
      rw [n6 k k1]
      refine r_i2l dX8_liftOf_46 ?_
      refine r_lmul dX8_liftOf_47 ?_
      refine r_goto 52 dX8_liftOf_48 (by decide) ?_
      refine r_lret dX8_liftOf_52 rfl ?_
      exact ⟨by unfold liftS; first | (rw [if_neg (fun q => absurd (Int64.not_le.mpr q) (by simpa using c_26))]; done) | (rw [if_pos (Int64.not_le.mp c_26), k4]; done), rfl⟩
  refine r_lload_2 dX8_liftOf_0 ?_
  refine r_lconst (v := 0) dX8_liftOf_1 (by decide) ?_
  refine r_lif_ge 10 dX8_liftOf_2 dX8_liftOf_3 (by decide) (fun c_2 => ?_) (fun c_2 => ?_)
  · refine r_lload_2 dX8_liftOf_10 ?_
    refine r_ldc2 dX8_liftOf_11 ks_X8_304 ?_
    refine r_ldiv dX8_liftOf_14 (by decide) ?_
    rw [show f / 10 = kS f from (if_neg (Int64.not_lt.mpr c_2)).symm]; exact J
  · refine r_lconst (v := 0) dX8_liftOf_6 (by decide) ?_
    refine r_goto 15 dX8_liftOf_7 (by decide) ?_
    rw [show (0 : Int64) = kS f from (if_pos (Int64.not_le.mp c_2)).symm]; exact J

theorem neg64 {r : Int32} (h : 1 ≤ r.toInt ∧ r.toInt ≤ 20) : (-r).toInt64 = -(r.toInt64) := by
  have h1 : (-r).toInt = -r.toInt := fb_negI (by omega)
  rw [fa_eq64, toInt64_toInt, h1]
  have := neg_b (y := r.toInt64) (B := 20) (by rw [toInt64_toInt]; omega) (by omega)
  rw [this.1, toInt64_toInt]
set_option maxRecDepth 100000 in
set_option maxHeartbeats 4000000 in
theorem q_lossOf {h : PH} {t : NT} (ok : okT t) (c : NetM h t) {e : Nat} (he : e < NT.E t) (f : Int64) : ConF mX8_lossOf 2 [.ref 74, .int (nI e), .long f] h (some (.long (lsT t e f))) h := by
  refine Con.mk (by decide) ?_
  show RT _ _ 0 [some (.ref 74), some (.int (nI e)), some (.long f), none] [] _ _
  have he14 : e < 14 := by have := ok.2.2.1; omega
  have hk := ok.2.2.2.1 e he
  have hj9 := ok.2.1
  obtain ⟨n1, n2, n3, n4, n5, n6⟩ := c.2.2.2.2.2.2 e he
  refine r_aload_0 dX8_lossOf_0 ?_
  refine r_getR (a := 81) dX8_lossOf_1 fl_X8_34 rfl rfl ?_
  refine r_iload_1 dX8_lossOf_4 ?_
  refine r_ialdN dX8_lossOf_5 rfl (by omega) ?_
  rw [n3]
  refine r_iconst (v := 2) dX8_lossOf_6 (by decide) ?_
  refine r_icmp_ne 18 dX8_lossOf_7 (by decide) (fun c_7 => ?_) (fun c_7 => ?_)
  · refine r_lload_2 dX8_lossOf_18 ?_
    refine r_lconst (v := 0) dX8_lossOf_19 (by decide) ?_
    refine r_lif_ge 39 dX8_lossOf_20 dX8_lossOf_21 (by decide) (fun c_20 => ?_) (fun c_20 => ?_)
    · refine r_aload_0 dX8_lossOf_39 ?_
      refine r_getR (a := 82) dX8_lossOf_40 fl_X8_37 rfl rfl ?_
      refine r_iload_1 dX8_lossOf_43 ?_
      refine r_ialdN dX8_lossOf_44 rfl (by omega) ?_
      refine r_i2l dX8_lossOf_45 ?_
      refine r_lload_2 dX8_lossOf_46 ?_
      refine r_lmul dX8_lossOf_47 ?_
      refine r_lload_2 dX8_lossOf_48 ?_
      refine r_lmul dX8_lossOf_49 ?_
      refine r_lret dX8_lossOf_50 rfl ?_
      refine ⟨?_, rfl⟩
      show _ = some (Value.long (lossS _ _ _ _ f))
      unfold lossS; rw [if_neg c_7, n4 c_7]
      by_cases q : f < 0
      · first | exact absurd q (Int64.not_lt.mpr c_20) | (rw [if_pos q, neg64 (hk.2.2.2.2.1 c_7), Int64.neg_mul, Int64.neg_mul])
      · first | exact absurd (Int64.not_lt.mp q) c_20 | rw [if_neg q]
    · refine r_aload_0 dX8_lossOf_24 ?_
      refine r_getR (a := 82) dX8_lossOf_25 fl_X8_37 rfl rfl ?_
      refine r_iload_1 dX8_lossOf_28 ?_
      refine r_ialdN dX8_lossOf_29 rfl (by omega) ?_
      refine r_ineg dX8_lossOf_30 ?_
      refine r_i2l dX8_lossOf_31 ?_
      refine r_lload_2 dX8_lossOf_32 ?_
      refine r_lmul dX8_lossOf_33 ?_
      refine r_lload_2 dX8_lossOf_34 ?_
      refine r_lmul dX8_lossOf_35 ?_
      refine r_goto 50 dX8_lossOf_36 (by decide) ?_
      refine r_lret dX8_lossOf_50 rfl ?_
      refine ⟨?_, rfl⟩
      show _ = some (Value.long (lossS _ _ _ _ f))
      unfold lossS; rw [if_neg c_7, n4 c_7]
      by_cases q : f < 0
      · first | exact absurd q (Int64.not_lt.mpr c_20) | (rw [if_pos q, neg64 (hk.2.2.2.2.1 c_7), Int64.neg_mul, Int64.neg_mul])
      · first | exact absurd (Int64.not_lt.mp q) c_20 | rw [if_neg q]
  · refine r_aload_0 dX8_lossOf_10 ?_
    refine r_iload_1 dX8_lossOf_11 ?_
    refine r_lload_2 dX8_lossOf_12 ?_
    refine r_cV2 mX8_liftOf dX8_lossOf_13 ml_X8_308 mo_X8_liftOf rfl (q_liftOf ok c he f) (by decide) ?_
    refine r_lneg dX8_lossOf_16 ?_
    refine r_lret dX8_lossOf_17 rfl ?_
    refine ⟨?_, rfl⟩
    show _ = some (Value.long (lossS _ _ _ _ f))
    unfold lossS; rw [if_pos c_7]

set_option maxRecDepth 100000 in
set_option maxHeartbeats 4000000 in
theorem q_steepBy {h : PH} {t : NT} (ok : okT t) (c : NetM h t) {e : Nat} (he : e < NT.E t) (f : Int64) : ConF mX8_steepBy 1 [.ref 74, .int (nI e), .long f] h (some (.long (spT t e f))) h := by
  refine Con.mk (by decide) ?_
  show RT _ _ 0 [some (.ref 74), some (.int (nI e)), some (.long f), none] [] _ _
  have he14 : e < 14 := by have := ok.2.2.1; omega
  have hk := ok.2.2.2.1 e he
  have hj9 := ok.2.1
  obtain ⟨n1, n2, n3, n4, n5, n6⟩ := c.2.2.2.2.2.2 e he
  refine r_aload_0 dX8_steepBy_0 ?_
  refine r_getR (a := 81) dX8_steepBy_1 fl_X8_34 rfl rfl ?_
  refine r_iload_1 dX8_steepBy_4 ?_
  refine r_ialdN dX8_steepBy_5 rfl (by omega) ?_
  rw [n3]
  refine r_iconst (v := 2) dX8_steepBy_6 (by decide) ?_
  refine r_icmp_ne 14 dX8_steepBy_7 (by decide) (fun c_7 => ?_) (fun c_7 => ?_)
  · refine r_aload_0 dX8_steepBy_14 ?_
    refine r_getR (a := 82) dX8_steepBy_15 fl_X8_37 rfl rfl ?_
    refine r_iload_1 dX8_steepBy_18 ?_
    refine r_ialdN dX8_steepBy_19 rfl (by omega) ?_
    refine r_i2l dX8_steepBy_20 ?_
    refine r_ldc2 dX8_steepBy_21 ks_X8_312 ?_
    refine r_lload_2 dX8_steepBy_24 ?_
    refine r_lconst (v := 0) dX8_steepBy_25 (by decide) ?_
    refine r_lif_ge 35 dX8_steepBy_26 dX8_steepBy_27 (by decide) (fun c_26 => ?_) (fun c_26 => ?_)
    · refine r_lload_2 dX8_steepBy_35 ?_
      refine r_lmul dX8_steepBy_36 ?_
      refine r_lconst (v := 1) dX8_steepBy_37 (by decide) ?_
      refine r_ladd dX8_steepBy_38 ?_
      refine r_lmul dX8_steepBy_39 ?_
      refine r_lret dX8_steepBy_40 rfl ?_
      refine ⟨?_, rfl⟩
      show _ = some (Value.long (steepS _ _ f))
      unfold steepS
      by_cases z : NT.kd t e = 2
      · first | exact absurd z c_7 | rw [if_pos z]
      · first
        | exact absurd c_7 z
        | (rw [if_neg z, n4 z]
           by_cases q : f < 0
           · first | exact absurd q (Int64.not_lt.mpr c_26) | (rw [if_pos q])
           · first | exact absurd (Int64.not_lt.mp q) c_26 | (rw [if_neg q]))
    · refine r_lload_2 dX8_steepBy_30 ?_
      refine r_lneg dX8_steepBy_31 ?_
      refine r_goto 36 dX8_steepBy_32 (by decide) ?_
      refine r_lmul dX8_steepBy_36 ?_
      refine r_lconst (v := 1) dX8_steepBy_37 (by decide) ?_
      refine r_ladd dX8_steepBy_38 ?_
      refine r_lmul dX8_steepBy_39 ?_
      refine r_lret dX8_steepBy_40 rfl ?_
      refine ⟨?_, rfl⟩
      show _ = some (Value.long (steepS _ _ f))
      unfold steepS
      by_cases z : NT.kd t e = 2
      · first | exact absurd z c_7 | rw [if_pos z]
      · first
        | exact absurd c_7 z
        | (rw [if_neg z, n4 z]
           by_cases q : f < 0
           · first | exact absurd q (Int64.not_lt.mpr c_26) | (rw [if_pos q])
           · first | exact absurd (Int64.not_lt.mp q) c_26 | (rw [if_neg q]))
  · refine r_lconst (v := 1) dX8_steepBy_10 (by decide) ?_
    refine r_goto 40 dX8_steepBy_11 (by decide) ?_
    refine r_lret dX8_steepBy_40 rfl ?_
    refine ⟨?_, rfl⟩
    show _ = some (Value.long (steepS _ _ f))
    unfold steepS
    by_cases z : NT.kd t e = 2
    · first | exact absurd z c_7 | rw [if_pos z]
    · first
      | exact absurd c_7 z
      | (rw [if_neg z, n4 z]
         by_cases q : f < 0
         · first | exact absurd q (Int64.not_lt.mpr c_26) | (rw [if_pos q])
         · first | exact absurd (Int64.not_lt.mp q) c_26 | (rw [if_neg q]))

set_option maxRecDepth 100000 in
set_option maxHeartbeats 4000000 in
theorem q_steepOf {h : PH} {t : NT} (ok : okT t) (c : NetM h t) {e : Nat} (he : e < NT.E t)  : ConF mX8_steepOf 2 [.ref 74, .int (nI e)] h (some (.long (spT t e (h.2 87 e)))) h := by
  refine Con.mk (by decide) ?_
  show RT _ _ 0 [some (.ref 74), some (.int (nI e))] [] _ _
  have he14 : e < 14 := by have := ok.2.2.1; omega
  have hk := ok.2.2.2.1 e he
  have hj9 := ok.2.1
  obtain ⟨n1, n2, n3, n4, n5, n6⟩ := c.2.2.2.2.2.2 e he
  refine r_aload_0 dX8_steepOf_0 ?_
  refine r_iload_1 dX8_steepOf_1 ?_
  refine r_aload_0 dX8_steepOf_2 ?_
  refine r_getR (a := 87) dX8_steepOf_3 fl_X8_52 rfl rfl ?_
  refine r_iload_1 dX8_steepOf_6 ?_
  refine r_laldN dX8_steepOf_7 rfl (by omega) ?_
  refine r_cV2 mX8_steepBy dX8_steepOf_8 ml_X8_314 mo_X8_steepBy rfl (q_steepBy ok c he _) (by decide) ?_
  refine r_lret dX8_steepOf_11 rfl ?_
  exact ⟨rfl, rfl⟩

