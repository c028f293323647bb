/-! ===== the class: bit, Net ===== -/
set_option maxRecDepth 100000 in
set_option maxHeartbeats 4000000 in
theorem k_X7_bit (h : PH) (b i : Int32) : ConF mX7_bit 1 [.int b, .int i] h (some (.int ((b >>> (i &&& 31)) &&& 1))) h := by
  refine Con.mk (by decide) ?_
  show RT _ _ 0 [some (.int b), some (.int i)] [] _ _
  refine r_iload_0 dX7_bit_0 ?_
  refine r_iload_1 dX7_bit_1 ?_
  refine r_ishr dX7_bit_2 ?_
  refine r_iconst (v := 1) dX7_bit_3 (by decide) ?_
  refine r_iand dX7_bit_4 ?_
  refine r_iret dX7_bit_5 rfl ?_
  exact ⟨rfl, rfl⟩

theorem k_bit (h : PH) (b : Int32) {j : Nat} (hj : j < 32) : ConF mX7_bit 1 [.int b, .int (nI j)] h (some (.int (b2i (bt b j = true)))) h := by
  have := k_X7_bit h b (nI j)
  rwa [bit_eq b hj] at this
set_option maxRecDepth 100000 in
set_option maxHeartbeats 4000000 in
theorem k_X2_hasJoint {o : Nat} (hN : isN o) (h : PH) (j : Int32) : ConF mX2_hasJoint 1 [.ref o, .int j] h (some (.int (b2i (0 ≤ j ∧ j < h.1 o 0)))) h := by
  refine Con.mk (by decide) ?_
  show RT _ _ 0 [some (.ref o), some (.int j)] [] _ _
  refine r_iload_1 dX2_hasJoint_0 ?_
  refine r_if_lt 16 dX2_hasJoint_1 (by decide) (fun c_1 => ?_) (fun c_1 => ?_)
  · refine r_iconst (v := 0) dX2_hasJoint_16 (by decide) ?_
    refine r_zret dX2_hasJoint_17 rfl rfl ?_
    refine ⟨congrArg (fun x => some (Value.int x)) ?_, rfl⟩
    first | exact (b2i_t (by simp only [fa_lt, fa_le, Int32.toInt_zero] at *; omega)).symm | exact (b2i_f (by simp only [fa_lt, fa_le, Int32.toInt_zero] at *; omega)).symm
  · refine r_iload_1 dX2_hasJoint_4 ?_
    refine r_aload_0 dX2_hasJoint_5 ?_
    refine r_getI dX2_hasJoint_6 fl_X2_40 (hN.s 0 (by decide)) ?_
    refine r_icmp_ge 16 dX2_hasJoint_9 (by decide) (fun c_9 => ?_) (fun c_9 => ?_)
    · refine r_iconst (v := 0) dX2_hasJoint_16 (by decide) ?_
      refine r_zret dX2_hasJoint_17 rfl rfl ?_
      refine ⟨congrArg (fun x => some (Value.int x)) ?_, rfl⟩
      first | exact (b2i_t (by simp only [fa_lt, fa_le, Int32.toInt_zero] at *; omega)).symm | exact (b2i_f (by simp only [fa_lt, fa_le, Int32.toInt_zero] at *; omega)).symm
    · refine r_iconst (v := 1) dX2_hasJoint_12 (by decide) ?_
      refine r_goto 17 dX2_hasJoint_13 (by decide) ?_
      refine r_zret dX2_hasJoint_17 rfl rfl ?_
      refine ⟨congrArg (fun x => some (Value.int x)) ?_, rfl⟩
      first | exact (b2i_t (by simp only [fa_lt, fa_le, Int32.toInt_zero] at *; omega)).symm | exact (b2i_f (by simp only [fa_lt, fa_le, Int32.toInt_zero] at *; omega)).symm

set_option maxRecDepth 100000 in
set_option maxHeartbeats 4000000 in
theorem k_X2_hasEdge {o : Nat} (hN : isN o) (h : PH) (j : Int32) : ConF mX2_hasEdge 1 [.ref o, .int j] h (some (.int (b2i (0 ≤ j ∧ j < h.1 o 1)))) h := by
  refine Con.mk (by decide) ?_
  show RT _ _ 0 [some (.ref o), some (.int j)] [] _ _
  refine r_iload_1 dX2_hasEdge_0 ?_
  refine r_if_lt 16 dX2_hasEdge_1 (by decide) (fun c_1 => ?_) (fun c_1 => ?_)
  · refine r_iconst (v := 0) dX2_hasEdge_16 (by decide) ?_
    refine r_zret dX2_hasEdge_17 rfl rfl ?_
    refine ⟨congrArg (fun x => some (Value.int x)) ?_, rfl⟩
    first | exact (b2i_t (by simp only [fa_lt, fa_le, Int32.toInt_zero] at *; omega)).symm | exact (b2i_f (by simp only [fa_lt, fa_le, Int32.toInt_zero] at *; omega)).symm
  · refine r_iload_1 dX2_hasEdge_4 ?_
    refine r_aload_0 dX2_hasEdge_5 ?_
    refine r_getI dX2_hasEdge_6 fl_X2_44 (hN.s 0 (by decide)) ?_
    refine r_icmp_ge 16 dX2_hasEdge_9 (by decide) (fun c_9 => ?_) (fun c_9 => ?_)
    · refine r_iconst (v := 0) dX2_hasEdge_16 (by decide) ?_
      refine r_zret dX2_hasEdge_17 rfl rfl ?_
      refine ⟨congrArg (fun x => some (Value.int x)) ?_, rfl⟩
      first | exact (b2i_t (by simp only [fa_lt, fa_le, Int32.toInt_zero] at *; omega)).symm | exact (b2i_f (by simp only [fa_lt, fa_le, Int32.toInt_zero] at *; omega)).symm
    · refine r_iconst (v := 1) dX2_hasEdge_12 (by decide) ?_
      refine r_goto 17 dX2_hasEdge_13 (by decide) ?_
      refine r_zret dX2_hasEdge_17 rfl rfl ?_
      refine ⟨congrArg (fun x => some (Value.int x)) ?_, rfl⟩
      first | exact (b2i_t (by simp only [fa_lt, fa_le, Int32.toInt_zero] at *; omega)).symm | exact (b2i_f (by simp only [fa_lt, fa_le, Int32.toInt_zero] at *; omega)).symm

set_option maxRecDepth 100000 in
set_option maxHeartbeats 4000000 in
theorem k_X2_otherEnd {o : Nat} (hN : isN o) {h : PH} {t : NT} (ok : okT t) (c : NetC h o t) {e : Nat} (he : e < NT.E t) {x : Nat} (hx : x < 9) : ConF mX2_otherEnd 1 [.ref o, .int (nI e), .int (nI x)] h (some (.int (if NT.fi t e = x ∨ NT.se t e = x then nI (oth (NT.fi t) (NT.se t) e x) else -1))) h := by
  refine Con.mk (by decide) ?_
  show RT _ _ 0 [some (.ref o), some (.int (nI e)), some (.int (nI x))] [] _ _
  have he14 : e < 14 := by have := ok.2.2.1; omega
  have hk := ok.2.2.2.1 e he
  have hj9 := ok.2.1
  obtain ⟨n1, n2, n3, n4, n5, n6⟩ := c.2.2.2.2.2 e he
  refine r_aload_0 dX2_otherEnd_0 ?_
  refine r_getR (a := (o + 4)) dX2_otherEnd_1 fl_X2_22 (hN.s 0 (by decide)) rfl ?_
  refine r_iload_1 dX2_otherEnd_4 ?_
  refine r_ialdN dX2_otherEnd_5 (hN.s 4 (by decide)) (by omega) ?_
  rw [n1]
  refine r_iload_2 dX2_otherEnd_6 ?_
  refine r_icmpN_ne 17 dX2_otherEnd_7 (by decide) (by omega) (by omega) (fun c_7 => ?_) (fun c_7 => ?_)
  · refine r_aload_0 dX2_otherEnd_17 ?_
    refine r_getR (a := (o + 5)) dX2_otherEnd_18 fl_X2_25 (hN.s 0 (by decide)) rfl ?_
    refine r_iload_1 dX2_otherEnd_21 ?_
    refine r_ialdN dX2_otherEnd_22 (hN.s 5 (by decide)) (by omega) ?_
    rw [n2]
    refine r_iload_2 dX2_otherEnd_23 ?_
    refine r_icmpN_ne 36 dX2_otherEnd_24 (by decide) (by omega) (by omega) (fun c_24 => ?_) (fun c_24 => ?_)
    · refine r_iconst (v := (-1)) dX2_otherEnd_36 (by decide) ?_
      refine r_iret dX2_otherEnd_37 rfl ?_
      exact ⟨by simp [oth, *], rfl⟩
    · refine r_aload_0 dX2_otherEnd_27 ?_
      refine r_getR (a := (o + 4)) dX2_otherEnd_28 fl_X2_22 (hN.s 0 (by decide)) rfl ?_
      refine r_iload_1 dX2_otherEnd_31 ?_
      refine r_ialdN dX2_otherEnd_32 (hN.s 4 (by decide)) (by omega) ?_
      rw [n1]
      refine r_goto 37 dX2_otherEnd_33 (by decide) ?_
      refine r_iret dX2_otherEnd_37 rfl ?_
      exact ⟨by simp [oth, *], rfl⟩
  · refine r_aload_0 dX2_otherEnd_10 ?_
    refine r_getR (a := (o + 5)) dX2_otherEnd_11 fl_X2_25 (hN.s 0 (by decide)) rfl ?_
    refine r_iload_1 dX2_otherEnd_14 ?_
    refine r_ialdN dX2_otherEnd_15 (hN.s 5 (by decide)) (by omega) ?_
    rw [n2]
    refine r_iret dX2_otherEnd_16 rfl ?_
    exact ⟨by simp [oth, *], rfl⟩

theorem loss_pipe {kd rs lc : Int32} {lf : Nat → Int32} {f : Int64} (hk : ¬ kd = 2) : rs.toInt64 * f * (if 0 < f then f else -f) = lossS kd rs lc lf f := by
  unfold lossS
  rw [if_neg hk]
  by_cases h1 : 0 < f
  · rw [if_pos h1, if_neg (fun h2 => by rw [fa_lt64] at h1 h2; omega)]
  · rw [if_neg h1]
    by_cases h2 : f < 0
    · rw [if_pos h2, Int64.mul_neg]
    · have : f = 0 := by
        rw [fa_lt64] at h1 h2
        rw [fa_eq64]; omega
      subst this
      rw [if_neg h2]; simp
set_option maxRecDepth 100000 in
set_option maxHeartbeats 4000000 in
theorem k_X2_lossBy {o : Nat} (hN : isN o) {h : PH} {t : NT} (ok : okT t) (c : NetC h o t) {e : Nat} (he : e < NT.E t) (f : Int64) : ConF mX2_lossBy 1 [.ref o, .int (nI e), .long f] h (some (.long (lsT t e f))) h := by
  refine Con.mk (by decide) ?_
  show RT _ _ 0 [some (.ref o), some (.int (nI e)), some (.long f), none, none, none] [] _ _
  have he14 : e < 14 := by have := ok.2.2.1; omega
  have hk := ok.2.2.2.1 e he
  have hj9 := ok.2.1
  obtain ⟨n1, n2, n3, n4, n5, n6⟩ := c.2.2.2.2.2 e he
  by_cases hp : NT.kd t e = 2
  · have J : RT mX2_lossBy 1 40 [some (.ref o), some (.int (nI e)), some (.long f), none, none, none] [.long (kS f)] h (fun a b => a = some (.long (lsT t e f)) ∧ b = h) := by
      refine r_lstore_4 dX2_lossBy_40 ?_
      refine r_lload_4 dX2_lossBy_42 ?_
      refine r_aload_0 dX2_lossBy_44 ?_
      refine r_getR (a := (o + 8)) dX2_lossBy_45 fl_X2_34 (hN.s 0 (by decide)) rfl ?_
      refine r_iload_1 dX2_lossBy_48 ?_
      refine r_ialdN dX2_lossBy_49 (hN.s 8 (by decide)) (by omega) ?_
      rw [n5]
      refine r_i2l dX2_lossBy_50 ?_
      refine r_lif_ge 76 dX2_lossBy_51 dX2_lossBy_52 (by decide) (fun c_51 => ?_) (fun c_51 => ?_)
      · refine r_lconst (v := 0) dX2_lossBy_76 (by decide) ?_
        refine r_lret dX2_lossBy_77 rfl ?_
        exact ⟨by show _ = some (Value.long (lossS _ _ _ _ f)); unfold lossS liftS; rw [if_pos hp]; first | (rw [if_neg (fun q => absurd (Int64.not_le.mpr q) (by simpa using c_51))]; simp) | (rw [if_pos (Int64.not_le.mp c_51), k4, show (-100 : Int64) = -(100) by decide, Int64.neg_mul]), rfl⟩
      · refine r_ldc2 dX2_lossBy_55 ks_X2_67 ?_
        refine r_aload_0 dX2_lossBy_58 ?_
        refine r_getR (a := (o + 9)) dX2_lossBy_59 fl_X2_37 (hN.s 0 (by decide)) rfl ?_
        refine r_iload_1 dX2_lossBy_62 ?_
        refine r_bipush (v := nI 6) dX2_lossBy_63 (by decide) ?_
        refine r_imul dX2_lossBy_65 ?_
        refine r_lload_4 dX2_lossBy_66 ?_
        refine r_l2i dX2_lossBy_68 ?_
        refine r_iadd dX2_lossBy_69 ?_
        obtain ⟨k, k1, k2, k3, k4⟩ := kS_lt hk.2.2.2.2.2.1 (Int64.not_le.mp c_51)
        rw [k3, pk_mul, nI_add]
        refine r_ialdN dX2_lossBy_70 (hN.s 9 (by decide)) (by omega) ?_
        rw [show e * 6 + k = 6 * e + k by omega, n6 k k1]
        refine r_i2l dX2_lossBy_71 ?_
        refine r_lmul dX2_lossBy_72 ?_
        refine r_goto 77 dX2_lossBy_73 (by decide) ?_
        refine r_lret dX2_lossBy_77 rfl ?_
        exact ⟨by show _ = some (Value.long (lossS _ _ _ _ f)); unfold lossS liftS; rw [if_pos hp]; first | (rw [if_neg (fun q => absurd (Int64.not_le.mpr q) (by simpa using c_51))]; simp) | (rw [if_pos (Int64.not_le.mp c_51), k4, show (-100 : Int64) = -(100) by decide, Int64.neg_mul]), rfl⟩
    refine r_aload_0 dX2_lossBy_0 ?_
    refine r_getR (a := (o + 6)) dX2_lossBy_1 fl_X2_28 (hN.s 0 (by decide)) rfl ?_
    refine r_iload_1 dX2_lossBy_4 ?_
    refine r_ialdN dX2_lossBy_5 (hN.s 6 (by decide)) (by omega) ?_
    rw [n3]
    refine r_iconst (v := 2) dX2_lossBy_6 (by decide) ?_
    refine r_icmp_eq 25 dX2_lossBy_7 (by decide) (fun c_7 => ?_) (fun c_7 => by exact absurd hp c_7)
    refine r_lload_2 dX2_lossBy_25 ?_
    refine r_lconst (v := 0) dX2_lossBy_26 (by decide) ?_
    refine r_lif_ge 35 dX2_lossBy_27 dX2_lossBy_28 (by decide) (fun c_27 => ?_) (fun c_27 => ?_)
    · refine r_lload_2 dX2_lossBy_35 ?_
      refine r_ldc2 dX2_lossBy_36 ks_X2_65 ?_
      refine r_ldiv dX2_lossBy_39 (by decide) ?_
      rw [show f / 10 = kS f from (if_neg (Int64.not_lt.mpr c_27)).symm]; exact J
    · refine r_lconst (v := 0) dX2_lossBy_31 (by decide) ?_
      refine r_goto 40 dX2_lossBy_32 (by decide) ?_
      rw [show (0 : Int64) = kS f from (if_pos (Int64.not_le.mp c_27)).symm]; exact J
  · refine r_aload_0 dX2_lossBy_0 ?_
    refine r_getR (a := (o + 6)) dX2_lossBy_1 fl_X2_28 (hN.s 0 (by decide)) rfl ?_
    refine r_iload_1 dX2_lossBy_4 ?_
    refine r_ialdN dX2_lossBy_5 (hN.s 6 (by decide)) (by omega) ?_
    rw [n3]
    refine r_iconst (v := 2) dX2_lossBy_6 (by decide) ?_
    refine r_icmp_eq 25 dX2_lossBy_7 (by decide) (fun c_7 => by exact absurd c_7 hp) (fun c_7 => ?_)
    refine r_aload_0 dX2_lossBy_10 ?_
    refine r_getR (a := (o + 7)) dX2_lossBy_11 fl_X2_31 (hN.s 0 (by decide)) rfl ?_
    refine r_iload_1 dX2_lossBy_14 ?_
    refine r_ialdN dX2_lossBy_15 (hN.s 7 (by decide)) (by omega) ?_
    refine r_i2l dX2_lossBy_16 ?_
    refine r_lload_2 dX2_lossBy_17 ?_
    refine r_lmul dX2_lossBy_18 ?_
    refine r_lload_2 dX2_lossBy_19 ?_
    refine r_labs dX2_lossBy_20 ml_X2_59 mo_Mabs (by decide) ?_
    refine r_lmul dX2_lossBy_23 ?_
    refine r_lret dX2_lossBy_24 rfl ?_
    exact ⟨by rw [n4 hp, loss_pipe hp (lc := nI (NT.lc t e)) (lf := NT.lf t e)]; rfl, rfl⟩

theorem steep_pipe {kd rs : Int32} {f : Int64} (hk : ¬ kd = 2) : rs.toInt64 * (2 * (if 0 < f then f else -f) + 1) = steepS kd rs f := by
  unfold steepS
  rw [if_neg hk]
  by_cases h1 : 0 < f
  · rw [if_pos h1, if_neg (fun h2 => by rw [fa_lt64] at h1 h2; omega)]
  · rw [if_neg h1]
    by_cases h2 : f < 0
    · rw [if_pos h2]
    · have : f = 0 := by
        rw [fa_lt64] at h1 h2
        rw [fa_eq64]; omega
      subst this
      rw [if_neg h2]; simp

set_option maxRecDepth 100000 in
set_option maxHeartbeats 4000000 in
theorem k_X2_steepBy {o : Nat} (hN : isN o) {h : PH} {t : NT} (ok : okT t) (c : NetC h o t) {e : Nat} (he : e < NT.E t) (f : Int64) : ConF mX2_steepBy 1 [.ref o, .int (nI e), .long f] h (some (.long (spT t e f))) h := by
  refine Con.mk (by decide) ?_
  show RT _ _ 0 [some (.ref o), some (.int (nI e)), some (.long f), none] [] _ _
  have he14 : e < 14 := by have := ok.2.2.1; omega
  have hk := ok.2.2.2.1 e he
  have hj9 := ok.2.1
  obtain ⟨n1, n2, n3, n4, n5, n6⟩ := c.2.2.2.2.2 e he
  refine r_aload_0 dX2_steepBy_0 ?_
  refine r_getR (a := (o + 6)) dX2_steepBy_1 fl_X2_28 (hN.s 0 (by decide)) rfl ?_
  refine r_iload_1 dX2_steepBy_4 ?_
  refine r_ialdN dX2_steepBy_5 (hN.s 6 (by decide)) (by omega) ?_
  rw [n3]
  refine r_iconst (v := 2) dX2_steepBy_6 (by decide) ?_
  refine r_icmp_ne 14 dX2_steepBy_7 (by decide) (fun c_7 => ?_) (fun c_7 => ?_)
  · refine r_aload_0 dX2_steepBy_14 ?_
    refine r_getR (a := (o + 7)) dX2_steepBy_15 fl_X2_31 (hN.s 0 (by decide)) rfl ?_
    refine r_iload_1 dX2_steepBy_18 ?_
    refine r_ialdN dX2_steepBy_19 (hN.s 7 (by decide)) (by omega) ?_
    refine r_i2l dX2_steepBy_20 ?_
    refine r_ldc2 dX2_steepBy_21 ks_X2_69 ?_
    refine r_lload_2 dX2_steepBy_24 ?_
    refine r_labs dX2_steepBy_25 ml_X2_59 mo_Mabs (by decide) ?_
    refine r_lmul dX2_steepBy_28 ?_
    refine r_lconst (v := 1) dX2_steepBy_29 (by decide) ?_
    refine r_ladd dX2_steepBy_30 ?_
    refine r_lmul dX2_steepBy_31 ?_
    refine r_lret dX2_steepBy_32 rfl ?_
    refine ⟨?_, rfl⟩
    show _ = some (Value.long (steepS _ _ f))
    first | (unfold steepS; rw [if_pos c_7]; done) | (rw [n4 c_7]; exact congrArg (fun x => some (Value.long x)) (steep_pipe c_7)) | (unfold steepS; rw [if_pos (by simpa using c_7)])
  · refine r_lconst (v := 1) dX2_steepBy_10 (by decide) ?_
    refine r_goto 32 dX2_steepBy_11 (by decide) ?_
    refine r_lret dX2_steepBy_32 rfl ?_
    refine ⟨?_, rfl⟩
    show _ = some (Value.long (steepS _ _ f))
    first | (unfold steepS; rw [if_pos c_7]; done) | (rw [n4 c_7]; exact congrArg (fun x => some (Value.long x)) (steep_pipe c_7)) | (unfold steepS; rw [if_pos (by simpa using c_7)])

