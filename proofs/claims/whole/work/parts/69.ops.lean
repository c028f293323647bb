/-! ===== both: lossAt; size, trouble, fault, where ===== -/
theorem in_w {v a' b' : Int32} {a b : Int64} (ha : a.toInt = a'.toInt) (hb : b.toInt = b'.toInt) : (a ≤ v.toInt64 ∧ v.toInt64 ≤ b) ↔ (a' ≤ v ∧ v ≤ b') := by
  rw [le64, le64, fa_le, fa_le, toInt64_toInt, ha, hb]
theorem ge_of_nlt {x a : Int32} (h : ¬ x < a) : a ≤ x := by rw [fa_lt] at h; rw [fa_le]; omega
theorem nlt_of_ge {x a : Int32} (h : a ≤ x) : ¬ x < a := by rw [fa_le] at h; rw [fa_lt]; omega
def Quiet (M1 : MI) (d1 : Nat) (as1 : List Value) (M2 : MI) (d2 : Nat) (as2 : List Value) (h : PH) : Prop := ∃ v, ConF M1 d1 as1 h (some v) h ∧ ConF M2 d2 as2 h (some v) (pI h 74 0 0)
theorem INV.q {h : PH} (i : INV h) (x : Int32) : INV (pI h 74 0 x) := by
  obtain ⟨n, bs, tr, fl, wp, t, nm, ac, ms, i1, i2, i3, i4, i5, i6⟩ := i
  have g : ∀ y, y ≠ 74 → (pI h 74 0 x).1 y = h.1 y := fun y hy => funext fun j => pI_ne y j (Or.inl hy)
  have z : ∀ k, k ≠ 0 → (pI h 74 0 x).1 74 k = h.1 74 k := fun k hk => pI_ne 74 k (Or.inr hk)
  refine ⟨n, bs, tr, fl, wp, t, nm, ac, ms, ?_, ?_, i3.k (fun y _ hy => ⟨g y (by omega), rfl⟩), ?_, ?_, i6.f2 x (by omega)⟩
  · unfold CT; rw [g 0 (by decide), g 1 (by decide)]; exact i1
  · unfold CE; rw [g 0 (by decide)]; exact i2
  · unfold MT; rw [z 5 (by decide), g 75 (by decide)]; exact i4
  · unfold ME; rw [z 1 (by decide), z 2 (by decide), z 3 (by decide)]; exact i5
set_option maxRecDepth 100000 in
set_option maxHeartbeats 4000000 in
theorem o_size {h : PH} (i : INV h) : Quiet mX7_size 1 [.ref 0] mX8_size 1 [.ref 74] h := by
  obtain ⟨n, bs, tr, fl, wp, t, nm, ac, ms, i1, i2, i3, i4, i5, i6⟩ := i
  have z : ∀ k, k ≠ 0 → (pI h 74 0 0).1 74 k = h.1 74 k := fun k hk => pI_ne 74 k (Or.inr hk)
  refine ⟨.int (nI n), ?_, ?_⟩
  · refine Con.mk (by decide) ?_
    show RT _ _ 0 [some (.ref 0)] [] _ _
    refine r_aload_0 dX7_size_0 ?_
    refine r_getI dX7_size_1 fl_X7_58 rfl ?_
    rw [i1.1]
    refine r_iret dX7_size_4 rfl ?_
    exact ⟨rfl, rfl⟩
  · refine Con.mk (by decide) ?_
    show RT _ _ 0 [some (.ref 74)] [] _ _
    refine r_aload_0 dX8_size_0 ?_
    refine r_iconst (v := 0) dX8_size_1 (by decide) ?_
    refine r_putI dX8_size_2 fl_X8_96 rfl rfl rfl ?_
    refine r_aload_0 dX8_size_5 ?_
    refine r_getI dX8_size_6 fl_X8_104 rfl ?_
    rw [z 5 (by decide), i4.1]
    refine r_iret dX8_size_9 rfl ?_
    exact ⟨rfl, rfl⟩

set_option maxRecDepth 100000 in
set_option maxHeartbeats 4000000 in
theorem o_trouble {h : PH} (i : INV h) : Quiet mX7_trouble 1 [.ref 0] mX8_trouble 1 [.ref 74] h := by
  obtain ⟨n, bs, tr, fl, wp, t, nm, ac, ms, i1, i2, i3, i4, i5, i6⟩ := i
  have z : ∀ k, k ≠ 0 → (pI h 74 0 0).1 74 k = h.1 74 k := fun k hk => pI_ne 74 k (Or.inr hk)
  refine ⟨.int tr, ?_, ?_⟩
  · refine Con.mk (by decide) ?_
    show RT _ _ 0 [some (.ref 0)] [] _ _
    refine r_aload_0 dX7_trouble_0 ?_
    refine r_getI dX7_trouble_1 fl_X7_325 rfl ?_
    rw [i2.1]
    refine r_iret dX7_trouble_4 rfl ?_
    exact ⟨rfl, rfl⟩
  · refine Con.mk (by decide) ?_
    show RT _ _ 0 [some (.ref 74)] [] _ _
    refine r_aload_0 dX8_trouble_0 ?_
    refine r_iconst (v := 0) dX8_trouble_1 (by decide) ?_
    refine r_putI dX8_trouble_2 fl_X8_96 rfl rfl rfl ?_
    refine r_aload_0 dX8_trouble_5 ?_
    refine r_getI dX8_trouble_6 fl_X8_99 rfl ?_
    rw [z 1 (by decide), i5.1]
    refine r_iret dX8_trouble_9 rfl ?_
    exact ⟨rfl, rfl⟩

set_option maxRecDepth 100000 in
set_option maxHeartbeats 4000000 in
theorem o_fault {h : PH} (i : INV h) : Quiet mX7_fault 1 [.ref 0] mX8_fault 1 [.ref 74] h := by
  obtain ⟨n, bs, tr, fl, wp, t, nm, ac, ms, i1, i2, i3, i4, i5, i6⟩ := i
  have z : ∀ k, k ≠ 0 → (pI h 74 0 0).1 74 k = h.1 74 k := fun k hk => pI_ne 74 k (Or.inr hk)
  refine ⟨.int fl, ?_, ?_⟩
  · refine Con.mk (by decide) ?_
    show RT _ _ 0 [some (.ref 0)] [] _ _
    refine r_aload_0 dX7_fault_0 ?_
    refine r_getI dX7_fault_1 fl_X7_73 rfl ?_
    rw [i2.2.1]
    refine r_iret dX7_fault_4 rfl ?_
    exact ⟨rfl, rfl⟩
  · refine Con.mk (by decide) ?_
    show RT _ _ 0 [some (.ref 74)] [] _ _
    refine r_aload_0 dX8_fault_0 ?_
    refine r_iconst (v := 0) dX8_fault_1 (by decide) ?_
    refine r_putI dX8_fault_2 fl_X8_96 rfl rfl rfl ?_
    refine r_aload_0 dX8_fault_5 ?_
    refine r_getI dX8_fault_6 fl_X8_248 rfl ?_
    rw [z 2 (by decide), i5.2.1]
    refine r_iret dX8_fault_9 rfl ?_
    exact ⟨rfl, rfl⟩

set_option maxRecDepth 100000 in
set_option maxHeartbeats 4000000 in
theorem o_where {h : PH} (i : INV h) : Quiet mX7_where 1 [.ref 0] mX8_where 1 [.ref 74] h := by
  obtain ⟨n, bs, tr, fl, wp, t, nm, ac, ms, i1, i2, i3, i4, i5, i6⟩ := i
  have z : ∀ k, k ≠ 0 → (pI h 74 0 0).1 74 k = h.1 74 k := fun k hk => pI_ne 74 k (Or.inr hk)
  refine ⟨.int wp, ?_, ?_⟩
  · refine Con.mk (by decide) ?_
    show RT _ _ 0 [some (.ref 0)] [] _ _
    refine r_aload_0 dX7_where_0 ?_
    refine r_getI dX7_where_1 fl_X7_15 rfl ?_
    rw [i2.2.2]
    refine r_iret dX7_where_4 rfl ?_
    exact ⟨rfl, rfl⟩
  · refine Con.mk (by decide) ?_
    show RT _ _ 0 [some (.ref 74)] [] _ _
    refine r_aload_0 dX8_where_0 ?_
    refine r_iconst (v := 0) dX8_where_1 (by decide) ?_
    refine r_putI dX8_where_2 fl_X8_96 rfl rfl rfl ?_
    refine r_aload_0 dX8_where_5 ?_
    refine r_getI dX8_where_6 fl_X8_99 rfl ?_
    rw [z 1 (by decide), i5.1]
    refine r_iconst (v := 4) dX8_where_9 (by decide) ?_
    refine r_icmp_ne 20 dX8_where_10 (by decide) (fun c_10 => ?_) (fun c_10 => ?_)
    · refine r_iconst (v := (-1)) dX8_where_20 (by decide) ?_
      refine r_iret dX8_where_21 rfl ?_
      exact ⟨by first | (rw [i5.2.2.1 c_10]; done) | (rw [i5.2.2.2 c_10]; done), rfl⟩
    · refine r_aload_0 dX8_where_13 ?_
      refine r_getI dX8_where_14 fl_X8_11 rfl ?_
      rw [z 3 (by decide)]
      refine r_goto 21 dX8_where_17 (by decide) ?_
      refine r_iret dX8_where_21 rfl ?_
      exact ⟨by first | (rw [i5.2.2.1 c_10]; done) | (rw [i5.2.2.2 c_10]; done), rfl⟩

set_option maxRecDepth 100000 in
set_option maxHeartbeats 4000000 in
theorem o_lossAt {h : PH} (i : INV h) (x f y : Int32) : Same mX7_lossAt 3 [.ref 0, .int x, .int f, .int y] mX8_lossAt 3 [.ref 74, .int x, .int f, .int y] h := by
  obtain ⟨n, bs, tr, fl, wp, t, nm, ac, ms, i1, i2, i3, i4, i5, i6⟩ := i
  have hb := i3.e
  have f7 : ∀ y, (clH h y).1 74 7 = nI (NT.E t) := fun y => by rw [clH_1 (by decide)]; exact i6.2.1
  by_cases hx : 0 ≤ x ∧ x < nI (NT.E t)
  · by_cases hy : 0 ≤ y ∧ y < nI (1 + 1)
    · obtain ⟨e, he, rfl⟩ := ex_nat hb.2 hx
      obtain ⟨c, hc, rfl⟩ := ex_nat2 (by decide) hy
      have hJ : 0 < NT.J t := i3.je he
      have hcc : c = 0 ∨ c = 1 := by omega
      by_cases hf : (-10000 : Int32) ≤ f ∧ f ≤ 10000
      · skip
        obtain ⟨tx, nok, mok, sc, nac, acc, mec⟩ := (i3.k (clH_kC (x := 0))).2.2.2 hJ
        have ok := tx.1
        have hE14 := ok.2.2.1
        have hJ9 := ok.2.1
        obtain ⟨nc, s9, s10, s12, s11, tc, rc, flc, hdc⟩ := sc
        obtain ⟨-, -, m44, m46, -, mm⟩ := (i6.k (clH_kM (x := 0))).rf 0
        obtain ⟨rwm, sm, nam, acm, mem⟩ := mm hJ
        obtain ⟨ncm, p28, p39, p41, p40, tcm, rcm, flm, hdm⟩ := sm
        rcases hcc with rfl | rfl
        · refine ⟨.long (lsT t e f.toInt64), 0, by decide, ?_, ?_⟩
          · refine Con.mk (by decide) ?_
            show RT _ _ 0 [some (.ref 0), some (.int (nI e)), some (.int f), some (.int (nI 0))] [] _ _
            refine r_aload_0 dX7_lossAt_0 ?_
            refine r_getR (a := 15) dX7_lossAt_1 fl_X7_37 rfl rfl ?_
            refine r_iload_1 dX7_lossAt_4 ?_
            refine r_cV1 mX2_hasEdge dX7_lossAt_5 ml_X7_137 mo_X2_hasEdge rfl (k_X2_hasEdge isN15 h (nI e)) (by decide) ?_
            rw [i3.2.1, b2i_t hx]
            refine r_if_eq 20 dX7_lossAt_8 (by decide) (fun c_8 => by exact absurd c_8 (by decide)) (fun c_8 => ?_)
            refine r_iload_3 dX7_lossAt_11 ?_
            refine r_if_lt 20 dX7_lossAt_12 (by decide) (fun c_12 => by exact absurd c_12 (by decide)) (fun c_12 => ?_)
            refine r_iload_3 dX7_lossAt_15 ?_
            refine r_iconst (v := 1) dX7_lossAt_16 (by decide) ?_
            refine r_icmp_le 26 dX7_lossAt_17 (by decide) (fun c_17 => ?_) (fun c_17 => by exact absurd (show nI 0 ≤ 1 by decide) c_17)
            refine r_iload_2 dX7_lossAt_26 ?_
            refine r_sipush (v := (-10000)) dX7_lossAt_27 (by decide) ?_
            refine r_icmp_lt 40 dX7_lossAt_30 (by decide) (fun c_30 => by exact absurd c_30 (nlt_of_ge hf.1)) (fun c_30 => ?_)
            refine r_iload_2 dX7_lossAt_33 ?_
            refine r_sipush (v := 10000) dX7_lossAt_34 (by decide) ?_
            refine r_icmp_le 46 dX7_lossAt_37 (by decide) (fun c_37 => ?_) (fun c_37 => by exact absurd hf.2 c_37)
            refine r_aload_0 dX7_lossAt_46 ?_
            refine r_cW0 mX7_allow dX7_lossAt_47 ml_X7_79 mo_X7_allow rfl (k_allow h) (by decide) ?_
            refine r_iload_3 dX7_lossAt_50 ?_
            refine r_if_ne 67 dX7_lossAt_51 (by decide) (fun c_51 => by exact absurd rfl c_51) (fun c_51 => ?_)
            refine r_aload_0 dX7_lossAt_54 ?_
            refine r_getR (a := 15) dX7_lossAt_55 fl_X7_37 rfl rfl ?_
            refine r_iload_1 dX7_lossAt_58 ?_
            refine r_iload_2 dX7_lossAt_59 ?_
            refine r_i2l dX7_lossAt_60 ?_
            refine r_cV2 mX2_lossBy dX7_lossAt_61 ml_X7_179 mo_X2_lossBy rfl (k_X2_lossBy isN15 ok nc he _) (by decide) ?_
            refine r_goto 77 dX7_lossAt_64 (by decide) ?_
            refine r_lret dX7_lossAt_77 rfl ?_
            exact ⟨rfl, rfl⟩
          · refine Con.mk (by decide) ?_
            show RT _ _ 0 [some (.ref 74), some (.int (nI e)), some (.int f), some (.int (nI 0))] [] _ _
            refine r_aload_0 dX8_lossAt_0 ?_
            refine r_aload_0 dX8_lossAt_1 ?_
            refine r_iload_1 dX8_lossAt_2 ?_
            refine r_cV1 mX8_isEdge dX8_lossAt_3 ml_X8_317 mo_X8_isEdge rfl (q_isEdge _ hb.2 (f7 0) _) (by decide) ?_
            rw [b2i_t hx]
            refine r_if_eq 23 dX8_lossAt_6 (by decide) (fun c_6 => by exact absurd c_6 (by decide)) (fun c_6 => ?_)
            refine r_iload_3 dX8_lossAt_9 ?_
            refine r_i2l dX8_lossAt_10 ?_
            refine r_lconst (v := 0) dX8_lossAt_11 (by decide) ?_
            refine r_lconst (v := 1) dX8_lossAt_12 (by decide) ?_
            refine r_cS3 mX8_in dX8_lossAt_13 ml_X8_131 mo_X8_in (q_in _ _ _ _) (by decide) ?_
            rw [b2i_t (by decide +kernel)]
            refine r_if_eq 23 dX8_lossAt_16 (by decide) (fun c_16 => by exact absurd c_16 (by decide)) (fun c_16 => ?_)
            refine r_iconst (v := 1) dX8_lossAt_19 (by decide) ?_
            refine r_goto 24 dX8_lossAt_20 (by decide) ?_
            refine r_iload_2 dX8_lossAt_24 ?_
            refine r_i2l dX8_lossAt_25 ?_
            refine r_ldc2 dX8_lossAt_26 ks_X8_320 ?_
            refine r_ldc2 dX8_lossAt_29 ks_X8_322 ?_
            refine r_cS3 mX8_in dX8_lossAt_32 ml_X8_131 mo_X8_in (q_in _ _ _ _) (by decide) ?_
            rw [b2i_c (in_w (a' := -10000) (b' := 10000) (by decide +kernel) (by decide +kernel)), b2i_t hf]
            refine r_cS2 mX8_unless_ dX8_lossAt_35 ml_X8_241 mo_X8_unless_ (q_unless2 _ _ _) (by decide) ?_
            rw [show (if (1 : Int32) = 0 then (1 : Int32) else if (1 : Int32) = 0 then 2 else 0) = 0 by decide]
            refine r_cV1 mX8_isRefused dX8_lossAt_38 ml_X8_245 mo_X8_isRefused rfl (q_isRefused _ _) (by decide) ?_
            rw [b2i_f (by decide)]
            refine r_if_eq 48 dX8_lossAt_41 (by decide) (fun c_41 => ?_) (fun c_41 => by exact absurd rfl c_41)
            refine r_iload_3 dX8_lossAt_48 ?_
            refine r_if_ne 62 dX8_lossAt_49 (by decide) (fun c_49 => by exact absurd rfl c_49) (fun c_49 => ?_)
            refine r_aload_0 dX8_lossAt_52 ?_
            refine r_iload_1 dX8_lossAt_53 ?_
            refine r_iload_2 dX8_lossAt_54 ?_
            refine r_i2l dX8_lossAt_55 ?_
            refine r_cV2 mX8_lossOf dX8_lossAt_56 ml_X8_324 mo_X8_lossOf rfl (q_lossOf ok ncm he _) (by decide) ?_
            refine r_goto 69 dX8_lossAt_59 (by decide) ?_
            refine r_lret dX8_lossAt_69 rfl ?_
            exact ⟨rfl, rfl⟩
        · refine ⟨.long (spT t e f.toInt64), 0, by decide, ?_, ?_⟩
          · refine Con.mk (by decide) ?_
            show RT _ _ 0 [some (.ref 0), some (.int (nI e)), some (.int f), some (.int (nI 1))] [] _ _
            refine r_aload_0 dX7_lossAt_0 ?_
            refine r_getR (a := 15) dX7_lossAt_1 fl_X7_37 rfl rfl ?_
            refine r_iload_1 dX7_lossAt_4 ?_
            refine r_cV1 mX2_hasEdge dX7_lossAt_5 ml_X7_137 mo_X2_hasEdge rfl (k_X2_hasEdge isN15 h (nI e)) (by decide) ?_
            rw [i3.2.1, b2i_t hx]
            refine r_if_eq 20 dX7_lossAt_8 (by decide) (fun c_8 => by exact absurd c_8 (by decide)) (fun c_8 => ?_)
            refine r_iload_3 dX7_lossAt_11 ?_
            refine r_if_lt 20 dX7_lossAt_12 (by decide) (fun c_12 => by exact absurd c_12 (by decide)) (fun c_12 => ?_)
            refine r_iload_3 dX7_lossAt_15 ?_
            refine r_iconst (v := 1) dX7_lossAt_16 (by decide) ?_
            refine r_icmp_le 26 dX7_lossAt_17 (by decide) (fun c_17 => ?_) (fun c_17 => by exact absurd (show nI 1 ≤ 1 by decide) c_17)
            refine r_iload_2 dX7_lossAt_26 ?_
            refine r_sipush (v := (-10000)) dX7_lossAt_27 (by decide) ?_
            refine r_icmp_lt 40 dX7_lossAt_30 (by decide) (fun c_30 => by exact absurd c_30 (nlt_of_ge hf.1)) (fun c_30 => ?_)
            refine r_iload_2 dX7_lossAt_33 ?_
            refine r_sipush (v := 10000) dX7_lossAt_34 (by decide) ?_
            refine r_icmp_le 46 dX7_lossAt_37 (by decide) (fun c_37 => ?_) (fun c_37 => by exact absurd hf.2 c_37)
            refine r_aload_0 dX7_lossAt_46 ?_
            refine r_cW0 mX7_allow dX7_lossAt_47 ml_X7_79 mo_X7_allow rfl (k_allow h) (by decide) ?_
            refine r_iload_3 dX7_lossAt_50 ?_
            refine r_if_ne 67 dX7_lossAt_51 (by decide) (fun c_51 => ?_) (fun c_51 => by exact absurd c_51 (by decide))
            refine r_aload_0 dX7_lossAt_67 ?_
            refine r_getR (a := 15) dX7_lossAt_68 fl_X7_37 rfl rfl ?_
            refine r_iload_1 dX7_lossAt_71 ?_
            refine r_iload_2 dX7_lossAt_72 ?_
            refine r_i2l dX7_lossAt_73 ?_
            refine r_cV2 mX2_steepBy dX7_lossAt_74 ml_X7_238 mo_X2_steepBy rfl (k_X2_steepBy isN15 ok nc he _) (by decide) ?_
            refine r_lret dX7_lossAt_77 rfl ?_
            exact ⟨rfl, rfl⟩
          · refine Con.mk (by decide) ?_
            show RT _ _ 0 [some (.ref 74), some (.int (nI e)), some (.int f), some (.int (nI 1))] [] _ _
            refine r_aload_0 dX8_lossAt_0 ?_
            refine r_aload_0 dX8_lossAt_1 ?_
            refine r_iload_1 dX8_lossAt_2 ?_
            refine r_cV1 mX8_isEdge dX8_lossAt_3 ml_X8_317 mo_X8_isEdge rfl (q_isEdge _ hb.2 (f7 0) _) (by decide) ?_
            rw [b2i_t hx]
            refine r_if_eq 23 dX8_lossAt_6 (by decide) (fun c_6 => by exact absurd c_6 (by decide)) (fun c_6 => ?_)
            refine r_iload_3 dX8_lossAt_9 ?_
            refine r_i2l dX8_lossAt_10 ?_
            refine r_lconst (v := 0) dX8_lossAt_11 (by decide) ?_
            refine r_lconst (v := 1) dX8_lossAt_12 (by decide) ?_
            refine r_cS3 mX8_in dX8_lossAt_13 ml_X8_131 mo_X8_in (q_in _ _ _ _) (by decide) ?_
            rw [b2i_t (by decide +kernel)]
            refine r_if_eq 23 dX8_lossAt_16 (by decide) (fun c_16 => by exact absurd c_16 (by decide)) (fun c_16 => ?_)
            refine r_iconst (v := 1) dX8_lossAt_19 (by decide) ?_
            refine r_goto 24 dX8_lossAt_20 (by decide) ?_
            refine r_iload_2 dX8_lossAt_24 ?_
            refine r_i2l dX8_lossAt_25 ?_
            refine r_ldc2 dX8_lossAt_26 ks_X8_320 ?_
            refine r_ldc2 dX8_lossAt_29 ks_X8_322 ?_
            refine r_cS3 mX8_in dX8_lossAt_32 ml_X8_131 mo_X8_in (q_in _ _ _ _) (by decide) ?_
            rw [b2i_c (in_w (a' := -10000) (b' := 10000) (by decide +kernel) (by decide +kernel)), b2i_t hf]
            refine r_cS2 mX8_unless_ dX8_lossAt_35 ml_X8_241 mo_X8_unless_ (q_unless2 _ _ _) (by decide) ?_
            rw [show (if (1 : Int32) = 0 then (1 : Int32) else if (1 : Int32) = 0 then 2 else 0) = 0 by decide]
            refine r_cV1 mX8_isRefused dX8_lossAt_38 ml_X8_245 mo_X8_isRefused rfl (q_isRefused _ _) (by decide) ?_
            rw [b2i_f (by decide)]
            refine r_if_eq 48 dX8_lossAt_41 (by decide) (fun c_41 => ?_) (fun c_41 => by exact absurd rfl c_41)
            refine r_iload_3 dX8_lossAt_48 ?_
            refine r_if_ne 62 dX8_lossAt_49 (by decide) (fun c_49 => ?_) (fun c_49 => by exact absurd c_49 (by decide))
            refine r_aload_0 dX8_lossAt_62 ?_
            refine r_iload_1 dX8_lossAt_63 ?_
            refine r_iload_2 dX8_lossAt_64 ?_
            refine r_i2l dX8_lossAt_65 ?_
            refine r_cV2 mX8_steepBy dX8_lossAt_66 ml_X8_314 mo_X8_steepBy rfl (q_steepBy ok ncm he _) (by decide) ?_
            refine r_lret dX8_lossAt_69 rfl ?_
            exact ⟨rfl, rfl⟩
      · refine ⟨.long (-9223372036854775808), 2, by decide, ?_, ?_⟩
        · refine Con.mk (by decide) ?_
          show RT _ _ 0 [some (.ref 0), some (.int (nI e)), some (.int f), some (.int (nI c))] [] _ _
          refine r_aload_0 dX7_lossAt_0 ?_
          refine r_getR (a := 15) dX7_lossAt_1 fl_X7_37 rfl rfl ?_
          refine r_iload_1 dX7_lossAt_4 ?_
          refine r_cV1 mX2_hasEdge dX7_lossAt_5 ml_X7_137 mo_X2_hasEdge rfl (k_X2_hasEdge isN15 h (nI e)) (by decide) ?_
          rw [i3.2.1, b2i_t hx]
          refine r_if_eq 20 dX7_lossAt_8 (by decide) (fun c_8 => by exact absurd c_8 (by decide)) (fun c_8 => ?_)
          refine r_iload_3 dX7_lossAt_11 ?_
          refine r_if_lt 20 dX7_lossAt_12 (by decide) (fun c_12 => by exact absurd c_12 (nI_pos (by omega))) (fun c_12 => ?_)
          refine r_iload_3 dX7_lossAt_15 ?_
          refine r_iconst (v := nI 1) dX7_lossAt_16 (by decide) ?_
          refine r_icmpN_le 26 dX7_lossAt_17 (by decide) (by omega) (by omega) (fun c_17 => ?_) (fun c_17 => by omega)
          refine r_iload_2 dX7_lossAt_26 ?_
          refine r_sipush (v := (-10000)) dX7_lossAt_27 (by decide) ?_
          refine r_icmp_lt 40 dX7_lossAt_30 (by decide) (fun c_30 => ?_) (fun c_30 => ?_)
          · refine r_aload_0 dX7_lossAt_40 ?_
            refine r_iconst (v := 2) dX7_lossAt_41 (by decide) ?_
            refine r_cV1 mX7_refuseLong dX7_lossAt_42 ml_X7_171 mo_X7_refuseLong rfl (k_refuseL h 2) (by decide) ?_
            refine r_lret dX7_lossAt_45 rfl ?_
            exact ⟨rfl, rfl⟩
          · refine r_iload_2 dX7_lossAt_33 ?_
            refine r_sipush (v := 10000) dX7_lossAt_34 (by decide) ?_
            refine r_icmp_le 46 dX7_lossAt_37 (by decide) (fun c_37 => ?_) (fun c_37 => ?_)
            · exact absurd ⟨ge_of_nlt c_30, c_37⟩ hf
            · refine r_aload_0 dX7_lossAt_40 ?_
              refine r_iconst (v := 2) dX7_lossAt_41 (by decide) ?_
              refine r_cV1 mX7_refuseLong dX7_lossAt_42 ml_X7_171 mo_X7_refuseLong rfl (k_refuseL h 2) (by decide) ?_
              refine r_lret dX7_lossAt_45 rfl ?_
              exact ⟨rfl, rfl⟩
        · refine Con.mk (by decide) ?_
          show RT _ _ 0 [some (.ref 74), some (.int (nI e)), some (.int f), some (.int (nI c))] [] _ _
          refine r_aload_0 dX8_lossAt_0 ?_
          refine r_aload_0 dX8_lossAt_1 ?_
          refine r_iload_1 dX8_lossAt_2 ?_
          refine r_cV1 mX8_isEdge dX8_lossAt_3 ml_X8_317 mo_X8_isEdge rfl (q_isEdge _ hb.2 (f7 2) _) (by decide) ?_
          rw [b2i_t hx]
          refine r_if_eq 23 dX8_lossAt_6 (by decide) (fun c_6 => by exact absurd c_6 (by decide)) (fun c_6 => ?_)
          refine r_iload_3 dX8_lossAt_9 ?_
          refine r_i2l dX8_lossAt_10 ?_
          refine r_lconst (v := 0) dX8_lossAt_11 (by decide) ?_
          refine r_lconst (v := 1) dX8_lossAt_12 (by decide) ?_
          refine r_cS3 mX8_in dX8_lossAt_13 ml_X8_131 mo_X8_in (q_in _ _ _ _) (by decide) ?_
          rw [b2i_t ((in_k (n := 1) (by decide +kernel) (by decide)).mpr hy)]
          refine r_if_eq 23 dX8_lossAt_16 (by decide) (fun c_16 => by exact absurd c_16 (by decide)) (fun c_16 => ?_)
          refine r_iconst (v := 1) dX8_lossAt_19 (by decide) ?_
          refine r_goto 24 dX8_lossAt_20 (by decide) ?_
          refine r_iload_2 dX8_lossAt_24 ?_
          refine r_i2l dX8_lossAt_25 ?_
          refine r_ldc2 dX8_lossAt_26 ks_X8_320 ?_
          refine r_ldc2 dX8_lossAt_29 ks_X8_322 ?_
          refine r_cS3 mX8_in dX8_lossAt_32 ml_X8_131 mo_X8_in (q_in _ _ _ _) (by decide) ?_
          rw [b2i_c (in_w (a' := -10000) (b' := 10000) (by decide +kernel) (by decide +kernel)), b2i_f hf]
          refine r_cS2 mX8_unless_ dX8_lossAt_35 ml_X8_241 mo_X8_unless_ (q_unless2 _ _ _) (by decide) ?_
          rw [show (if (1 : Int32) = 0 then (1 : Int32) else if (0 : Int32) = 0 then 2 else 0) = 2 by decide]
          refine r_cV1 mX8_isRefused dX8_lossAt_38 ml_X8_245 mo_X8_isRefused rfl (q_isRefused _ _) (by decide) ?_
          rw [b2i_t (by decide)]
          refine r_if_eq 48 dX8_lossAt_41 (by decide) (fun c_41 => by exact absurd c_41 (by decide)) (fun c_41 => ?_)
          refine r_ldc2 dX8_lossAt_44 ks_X8_102 ?_
          refine r_lret dX8_lossAt_47 rfl ?_
          exact ⟨rfl, rfl⟩
    · refine ⟨.long (-9223372036854775808), 1, by decide, ?_, ?_⟩
      · refine Con.mk (by decide) ?_
        show RT _ _ 0 [some (.ref 0), some (.int x), some (.int f), some (.int y)] [] _ _
        refine r_aload_0 dX7_lossAt_0 ?_
        refine r_getR (a := 15) dX7_lossAt_1 fl_X7_37 rfl rfl ?_
        refine r_iload_1 dX7_lossAt_4 ?_
        refine r_cV1 mX2_hasEdge dX7_lossAt_5 ml_X7_137 mo_X2_hasEdge rfl (k_X2_hasEdge isN15 h x) (by decide) ?_
        rw [i3.2.1, b2i_t hx]
        refine r_if_eq 20 dX7_lossAt_8 (by decide) (fun c_8 => by exact absurd c_8 (by decide)) (fun c_8 => ?_)
        refine r_iload_3 dX7_lossAt_11 ?_
        refine r_if_lt 20 dX7_lossAt_12 (by decide) (fun c_12 => ?_) (fun c_12 => ?_)
        · refine r_aload_0 dX7_lossAt_20 ?_
          refine r_iconst (v := 1) dX7_lossAt_21 (by decide) ?_
          refine r_cV1 mX7_refuseLong dX7_lossAt_22 ml_X7_171 mo_X7_refuseLong rfl (k_refuseL h 1) (by decide) ?_
          refine r_lret dX7_lossAt_25 rfl ?_
          exact ⟨rfl, rfl⟩
        · refine r_iload_3 dX7_lossAt_15 ?_
          refine r_iconst (v := nI 1) dX7_lossAt_16 (by decide) ?_
          refine r_icmp_le 26 dX7_lossAt_17 (by decide) (fun c_17 => ?_) (fun c_17 => ?_)
          · exact absurd (rng (by decide) c_12 c_17) hy
          · refine r_aload_0 dX7_lossAt_20 ?_
            refine r_iconst (v := 1) dX7_lossAt_21 (by decide) ?_
            refine r_cV1 mX7_refuseLong dX7_lossAt_22 ml_X7_171 mo_X7_refuseLong rfl (k_refuseL h 1) (by decide) ?_
            refine r_lret dX7_lossAt_25 rfl ?_
            exact ⟨rfl, rfl⟩
      · refine Con.mk (by decide) ?_
        show RT _ _ 0 [some (.ref 74), some (.int x), some (.int f), some (.int y)] [] _ _
        refine r_aload_0 dX8_lossAt_0 ?_
        refine r_aload_0 dX8_lossAt_1 ?_
        refine r_iload_1 dX8_lossAt_2 ?_
        refine r_cV1 mX8_isEdge dX8_lossAt_3 ml_X8_317 mo_X8_isEdge rfl (q_isEdge _ hb.2 (f7 1) _) (by decide) ?_
        rw [b2i_t hx]
        refine r_if_eq 23 dX8_lossAt_6 (by decide) (fun c_6 => by exact absurd c_6 (by decide)) (fun c_6 => ?_)
        refine r_iload_3 dX8_lossAt_9 ?_
        refine r_i2l dX8_lossAt_10 ?_
        refine r_lconst (v := 0) dX8_lossAt_11 (by decide) ?_
        refine r_lconst (v := 1) dX8_lossAt_12 (by decide) ?_
        refine r_cS3 mX8_in dX8_lossAt_13 ml_X8_131 mo_X8_in (q_in _ _ _ _) (by decide) ?_
        rw [b2i_f (fun q => hy ((in_k (n := 1) (by decide +kernel) (by decide)).mp q))]
        refine r_if_eq 23 dX8_lossAt_16 (by decide) (fun c_16 => ?_) (fun c_16 => by exact absurd rfl c_16)
        refine r_iconst (v := 0) dX8_lossAt_23 (by decide) ?_
        refine r_iload_2 dX8_lossAt_24 ?_
        refine r_i2l dX8_lossAt_25 ?_
        refine r_ldc2 dX8_lossAt_26 ks_X8_320 ?_
        refine r_ldc2 dX8_lossAt_29 ks_X8_322 ?_
        refine r_cS3 mX8_in dX8_lossAt_32 ml_X8_131 mo_X8_in (q_in _ _ _ _) (by decide) ?_
        refine r_cS2 mX8_unless_ dX8_lossAt_35 ml_X8_241 mo_X8_unless_ (q_unless2 _ _ _) (by decide) ?_
        rw [if_pos rfl]
        refine r_cV1 mX8_isRefused dX8_lossAt_38 ml_X8_245 mo_X8_isRefused rfl (q_isRefused _ _) (by decide) ?_
        rw [b2i_t (by decide)]
        refine r_if_eq 48 dX8_lossAt_41 (by decide) (fun c_41 => by exact absurd c_41 (by decide)) (fun c_41 => ?_)
        refine r_ldc2 dX8_lossAt_44 ks_X8_102 ?_
        refine r_lret dX8_lossAt_47 rfl ?_
        exact ⟨rfl, rfl⟩
  · refine ⟨.long (-9223372036854775808), 1, by decide, ?_, ?_⟩
    · refine Con.mk (by decide) ?_
      show RT _ _ 0 [some (.ref 0), some (.int x), some (.int f), some (.int y)] [] _ _
      refine r_aload_0 dX7_lossAt_0 ?_
      refine r_getR (a := 15) dX7_lossAt_1 fl_X7_37 rfl rfl ?_
      refine r_iload_1 dX7_lossAt_4 ?_
      refine r_cV1 mX2_hasEdge dX7_lossAt_5 ml_X7_137 mo_X2_hasEdge rfl (k_X2_hasEdge isN15 h x) (by decide) ?_
      rw [i3.2.1, b2i_f hx]
      refine r_if_eq 20 dX7_lossAt_8 (by decide) (fun c_8 => ?_) (fun c_8 => by exact absurd rfl c_8)
      refine r_aload_0 dX7_lossAt_20 ?_
      refine r_iconst (v := 1) dX7_lossAt_21 (by decide) ?_
      refine r_cV1 mX7_refuseLong dX7_lossAt_22 ml_X7_171 mo_X7_refuseLong rfl (k_refuseL h 1) (by decide) ?_
      refine r_lret dX7_lossAt_25 rfl ?_
      exact ⟨rfl, rfl⟩
    · refine Con.mk (by decide) ?_
      show RT _ _ 0 [some (.ref 74), some (.int x), some (.int f), some (.int y)] [] _ _
      refine r_aload_0 dX8_lossAt_0 ?_
      refine r_aload_0 dX8_lossAt_1 ?_
      refine r_iload_1 dX8_lossAt_2 ?_
      refine r_cV1 mX8_isEdge dX8_lossAt_3 ml_X8_317 mo_X8_isEdge rfl (q_isEdge _ hb.2 (f7 1) _) (by decide) ?_
      rw [b2i_f hx]
      refine r_if_eq 23 dX8_lossAt_6 (by decide) (fun c_6 => ?_) (fun c_6 => by exact absurd rfl c_6)
      refine r_iconst (v := 0) dX8_lossAt_23 (by decide) ?_
      refine r_iload_2 dX8_lossAt_24 ?_
      refine r_i2l dX8_lossAt_25 ?_
      refine r_ldc2 dX8_lossAt_26 ks_X8_320 ?_
      refine r_ldc2 dX8_lossAt_29 ks_X8_322 ?_
      refine r_cS3 mX8_in dX8_lossAt_32 ml_X8_131 mo_X8_in (q_in _ _ _ _) (by decide) ?_
      refine r_cS2 mX8_unless_ dX8_lossAt_35 ml_X8_241 mo_X8_unless_ (q_unless2 _ _ _) (by decide) ?_
      rw [if_pos rfl]
      refine r_cV1 mX8_isRefused dX8_lossAt_38 ml_X8_245 mo_X8_isRefused rfl (q_isRefused _ _) (by decide) ?_
      rw [b2i_t (by decide)]
      refine r_if_eq 48 dX8_lossAt_41 (by decide) (fun c_41 => by exact absurd c_41 (by decide)) (fun c_41 => ?_)
      refine r_ldc2 dX8_lossAt_44 ks_X8_102 ?_
      refine r_lret dX8_lossAt_47 rfl ?_
      exact ⟨rfl, rfl⟩

