/-! ===== both: ring, sum, lossAt ===== -/
theorem ex_pos {y : Int32} (h : 0 ≤ y) : ∃ n, n < 2 ^ 31 ∧ y = nI n := by
  rw [fa_le, Int32.toInt_zero] at h
  have hlt := Int32.toInt_lt y
  refine ⟨y.toInt.toNat, by omega, ?_⟩
  rw [fa_eq]
  have : (nI y.toInt.toNat).toInt = (y.toInt.toNat : Int) := nI_toInt (by omega)
  rw [this]; omega
set_option maxRecDepth 100000 in
set_option maxHeartbeats 4000000 in
theorem k_ring0 {h : PH} (hf : h.1 15 0 = nI 0) (x : Int32) : ConF mX7_hasRing 2 [.ref 0, .int x] h (some (.int 0)) h := by
  refine Con.mk (by decide) ?_
  show RT _ _ 0 [some (.ref 0), some (.int x)] [] _ _
  refine r_aload_0 dX7_hasRing_0 ?_
  refine r_cV0 mX7_hasText dX7_hasRing_1 ml_X7_101 mo_X7_hasText rfl (k_hasText (n := 0) (by decide) hf) (by decide) ?_
  rw [b2i_f (by decide)]
  refine r_if_eq 29 dX7_hasRing_4 (by decide) (fun c_4 => ?_) (fun c_4 => by exact absurd rfl c_4)
  refine r_iconst (v := 0) dX7_hasRing_29 (by decide) ?_
  refine r_zret dX7_hasRing_30 rfl rfl ?_
  exact ⟨rfl, rfl⟩

set_option maxRecDepth 100000 in
set_option maxHeartbeats 4000000 in
theorem k_ring1 {h : PH} {n m : Nat} (hn : n < 15) (hf : h.1 15 0 = nI n) (h0 : 0 < n) (hr : h.1 31 0 = nI m) (x : Int32) : ConF mX7_hasRing 2 [.ref 0, .int x] h (some (.int (b2i (0 ≤ x ∧ x < nI m)))) h := by
  refine Con.mk (by decide) ?_
  show RT _ _ 0 [some (.ref 0), some (.int x)] [] _ _
  refine r_aload_0 dX7_hasRing_0 ?_
  refine r_cV0 mX7_hasText dX7_hasRing_1 ml_X7_101 mo_X7_hasText rfl (k_hasText hn hf) (by decide) ?_
  rw [b2i_t h0]
  refine r_if_eq 29 dX7_hasRing_4 (by decide) (fun c_4 => by exact absurd c_4 (by decide)) (fun c_4 => ?_)
  refine r_iload_1 dX7_hasRing_7 ?_
  refine r_if_lt 29 dX7_hasRing_8 (by decide) (fun c_8 => ?_) (fun c_8 => ?_)
  · refine r_iconst (v := 0) dX7_hasRing_29 (by decide) ?_
    refine r_zret dX7_hasRing_30 rfl rfl ?_
    refine ⟨congrArg (fun x => some (Value.int x)) ?_, rfl⟩
    by_cases z : 0 ≤ x ∧ x < nI m
    · first
      | exact absurd c_8 (by rw [fa_lt, Int32.toInt_zero]; have := z.1; rw [fa_le, Int32.toInt_zero] at this; omega)
      | exact absurd c_22 (by have := z.2; rw [fa_lt] at this; rw [fa_le]; omega)
      | exact (b2i_t z).symm
    · first
      | exact absurd (show 0 ≤ x ∧ x < nI m from ⟨by rw [fa_lt, Int32.toInt_zero] at c_8; rw [fa_le, Int32.toInt_zero]; omega, by rw [fa_le] at c_22; rw [fa_lt]; omega⟩) z
      | exact (b2i_f z).symm
  · refine r_iload_1 dX7_hasRing_11 ?_
    refine r_aload_0 dX7_hasRing_12 ?_
    refine r_getR (a := 14) dX7_hasRing_13 fl_X7_29 rfl rfl ?_
    refine r_getR (a := 31) dX7_hasRing_16 fl_X7_108 rfl rfl ?_
    refine r_getI dX7_hasRing_19 fl_X7_112 rfl ?_
    rw [hr]
    refine r_icmp_ge 29 dX7_hasRing_22 (by decide) (fun c_22 => ?_) (fun c_22 => ?_)
    · refine r_iconst (v := 0) dX7_hasRing_29 (by decide) ?_
      refine r_zret dX7_hasRing_30 rfl rfl ?_
      refine ⟨congrArg (fun x => some (Value.int x)) ?_, rfl⟩
      by_cases z : 0 ≤ x ∧ x < nI m
      · first
        | exact absurd c_8 (by rw [fa_lt, Int32.toInt_zero]; have := z.1; rw [fa_le, Int32.toInt_zero] at this; omega)
        | exact absurd c_22 (by have := z.2; rw [fa_lt] at this; rw [fa_le]; omega)
        | exact (b2i_t z).symm
      · first
        | exact absurd (show 0 ≤ x ∧ x < nI m from ⟨by rw [fa_lt, Int32.toInt_zero] at c_8; rw [fa_le, Int32.toInt_zero]; omega, by rw [fa_le] at c_22; rw [fa_lt]; omega⟩) z
        | exact (b2i_f z).symm
    · refine r_iconst (v := 1) dX7_hasRing_25 (by decide) ?_
      refine r_goto 30 dX7_hasRing_26 (by decide) ?_
      refine r_zret dX7_hasRing_30 rfl rfl ?_
      refine ⟨congrArg (fun x => some (Value.int x)) ?_, rfl⟩
      by_cases z : 0 ≤ x ∧ x < nI m
      · first
        | exact absurd c_8 (by rw [fa_lt, Int32.toInt_zero]; have := z.1; rw [fa_le, Int32.toInt_zero] at this; omega)
        | exact absurd c_22 (by have := z.2; rw [fa_lt] at this; rw [fa_le]; omega)
        | exact (b2i_t z).symm
      · first
        | exact absurd (show 0 ≤ x ∧ x < nI m from ⟨by rw [fa_lt, Int32.toInt_zero] at c_8; rw [fa_le, Int32.toInt_zero]; omega, by rw [fa_le] at c_22; rw [fa_lt]; omega⟩) z
        | exact (b2i_f z).symm

set_option maxRecDepth 100000 in
set_option maxHeartbeats 4000000 in
theorem o_ring {h : PH} (i : INV h) (x : Int32) (y : Int32) : Same mX7_ring 3 [.ref 0, .int x, .int y] mX8_ring 2 [.ref 74, .int x, .int y] h := by
  obtain ⟨n, bs, tr, fl, wp, t, nm, ac, ms, i1, i2, i3, i4, i5, i6⟩ := i
  have hb := i3.e
  by_cases hJ : 0 < NT.J t
  · skip
    obtain ⟨tx0, -, -, sc0, -, -, -⟩ := i3.2.2.2 hJ
    have k31 : h.1 31 0 = nI (rgS (snOf t) (solveS (snOf t)).1).length := sc0.2.2.2.2.2.2.1.1
    have r14 : (rgS (snOf t) (solveS (snOf t)).1).length ≤ 14 := tx0.1.ok.rings _
    have f34 : ∀ z, (clH h z).1 74 34 = nI (rgS (snOf t) (solveS (snOf t)).1).length := fun z => by rw [clH_1 (by decide)]; exact (i6.2.2.2.2.2 hJ).2.1.2.2.2.2.2.2.1.1
    by_cases hx : 0 ≤ x ∧ x < nI (rgS (snOf t) (solveS (snOf t)).1).length
    · obtain ⟨k, hkl, rfl⟩ := ex_nat (by omega) hx
      by_cases hy : 0 ≤ y
      · skip
        obtain ⟨tx, nok, mok, sc, nac, acc, mec⟩ := (i3.k (clH_kC (x := 0))).2.2.2 hJ
        have ok := tx.1
        have hE14 := ok.2.2.1
        have hJ9 := ok.2.1
        obtain ⟨nc, s9, s10, s12, s11, tc, rc, flc, hdc⟩ := sc
        obtain ⟨-, -, m44, m46, -, mm⟩ := (i6.k (clH_kM (x := 0))).rf 0
        obtain ⟨rwm, sm, nam, acm, mem⟩ := mm hJ
        obtain ⟨ncm, p28, p39, p41, p40, tcm, rcm, flm, hdm⟩ := sm
        have hL : (rgS (snOf t) (solveS (snOf t)).1).getD k [] ∈ (rgS (snOf t) (solveS (snOf t)).1) := by rw [List.getD_eq_getElem?_getD, List.getElem?_eq_getElem hkl]; exact List.getElem_mem _
        have rk := ok.ok.ring _ hL
        have hm : ∀ q ∈ (rgS (snOf t) (solveS (snOf t)).1).getD k [], q.1 < NT.E t := fun q hq => by have := rk.2.2.2 q hq; simp only [gl, Bool.and_eq_true, decide_eq_true_eq] at this; exact this.1
        have ra : RAt (clH h 0) 31 k ((rgS (snOf t) (solveS (snOf t)).1).getD k []) := rc.2 k hkl
        have ram := rcm.2 k hkl
        obtain ⟨n, hn, rfl⟩ := ex_pos hy
        refine ⟨.int (if n < ((rgS (snOf t) (solveS (snOf t)).1).getD k []).length then nI (gq ((rgS (snOf t) (solveS (snOf t)).1).getD k []) n).1 else -2), 0, by decide, ?_, ?_⟩
        · refine Con.mk (by decide) ?_
          show RT _ _ 0 [some (.ref 0), some (.int (nI k)), some (.int (nI n))] [] _ _
          refine r_aload_0 dX7_ring_0 ?_
          refine r_iload_1 dX7_ring_1 ?_
          refine r_cV1 mX7_hasRing dX7_ring_2 ml_X7_210 mo_X7_hasRing rfl (k_ring1 hb.1 i3.1 hJ k31 _) (by decide) ?_
          rw [b2i_t hx]
          refine r_if_eq 12 dX7_ring_5 (by decide) (fun c_5 => by exact absurd c_5 (by decide)) (fun c_5 => ?_)
          refine r_iload_2 dX7_ring_8 ?_
          refine r_if_ge 18 dX7_ring_9 (by decide) (fun c_9 => ?_) (fun c_9 => by exact absurd hy c_9)
          refine r_aload_0 dX7_ring_18 ?_
          refine r_cW0 mX7_allow dX7_ring_19 ml_X7_79 mo_X7_allow rfl (k_allow h) (by decide) ?_
          refine r_aload_0 dX7_ring_22 ?_
          refine r_getR (a := 14) dX7_ring_23 fl_X7_29 rfl rfl ?_
          refine r_getR (a := 31) dX7_ring_26 fl_X7_108 rfl rfl ?_
          refine r_iload_1 dX7_ring_29 ?_
          refine r_iload_2 dX7_ring_30 ?_
          refine r_cV2 mX4_member dX7_ring_31 ml_X7_213 mo_X4_member rfl (k_member (Or.inl rfl) (by omega) ra rk.2.1 hn) (by decide) ?_
          refine r_iret dX7_ring_34 rfl ?_
          exact ⟨rfl, rfl⟩
        · refine Con.mk (by decide) ?_
          show RT _ _ 0 [some (.ref 74), some (.int (nI k)), some (.int (nI n))] [] _ _
          refine r_aload_0 dX8_ring_0 ?_
          refine r_iload_1 dX8_ring_1 ?_
          refine r_i2l dX8_ring_2 ?_
          refine r_lconst (v := 0) dX8_ring_3 (by decide) ?_
          refine r_aload_0 dX8_ring_4 ?_
          refine r_getI dX8_ring_5 fl_X8_288 rfl ?_
          rw [f34 0]
          refine r_iconst (v := 1) dX8_ring_8 (by decide) ?_
          refine r_isub dX8_ring_9 ?_
          refine r_i2l dX8_ring_10 ?_
          refine r_cS3 mX8_in dX8_ring_11 ml_X8_131 mo_X8_in (q_in _ _ _ _) (by decide) ?_
          rw [b2i_c (in_lt (by omega)), b2i_t hx]
          refine r_if_eq 25 dX8_ring_14 (by decide) (fun c_14 => by exact absurd c_14 (by decide)) (fun c_14 => ?_)
          refine r_iload_2 dX8_ring_17 ?_
          refine r_if_lt 25 dX8_ring_18 (by decide) (fun c_18 => by exact absurd c_18 (nI_pos hn)) (fun c_18 => ?_)
          refine r_iconst (v := 1) dX8_ring_21 (by decide) ?_
          refine r_goto 26 dX8_ring_22 (by decide) ?_
          refine r_cS1 mX8_unless dX8_ring_26 ml_X8_330 mo_X8_unless (q_unless _ _) (by decide) ?_
          rw [un1]
          refine r_cV1 mX8_isRefused dX8_ring_29 ml_X8_245 mo_X8_isRefused rfl (q_isRefused _ _) (by decide) ?_
          rw [b2i_f (by decide)]
          refine r_if_eq 37 dX8_ring_32 (by decide) (fun c_32 => ?_) (fun c_32 => by exact absurd rfl c_32)
          refine r_iload_2 dX8_ring_37 ?_
          refine r_aload_0 dX8_ring_38 ?_
          refine r_getR (a := 90) dX8_ring_39 fl_X8_62 rfl rfl ?_
          refine r_iload_1 dX8_ring_42 ?_
          refine r_ialdN dX8_ring_43 rfl (by omega) ?_
          rw [ram.1]
          refine r_icmpN_ge 61 dX8_ring_44 (by decide) (by omega) (by omega) (fun c_44 => ?_) (fun c_44 => ?_)
          · refine r_bipush (v := (-2)) dX8_ring_61 (by decide) ?_
            refine r_iret dX8_ring_63 rfl ?_
            exact ⟨by first | (rw [if_neg (by omega)]; done) | (rw [if_pos (by omega)]; done), rfl⟩
          · refine r_aload_0 dX8_ring_47 ?_
            refine r_getR (a := 88) dX8_ring_48 fl_X8_56 rfl rfl ?_
            refine r_bipush (v := nI 14) dX8_ring_51 (by decide) ?_
            refine r_iload_1 dX8_ring_53 ?_
            refine r_imul dX8_ring_54 ?_
            refine r_iload_2 dX8_ring_55 ?_
            refine r_iadd dX8_ring_56 ?_
            rw [pk_mul, nI_add]
            refine r_ialdN dX8_ring_57 rfl (by have := rk.2.1; omega) ?_
            rw [(ram.2 n (by omega)).1]
            refine r_goto 63 dX8_ring_58 (by decide) ?_
            refine r_iret dX8_ring_63 rfl ?_
            exact ⟨by first | (rw [if_neg (by omega)]; done) | (rw [if_pos (by omega)]; done), rfl⟩
      · refine ⟨.int (-1), 1, by decide, ?_, ?_⟩
        · refine Con.mk (by decide) ?_
          show RT _ _ 0 [some (.ref 0), some (.int (nI k)), some (.int y)] [] _ _
          refine r_aload_0 dX7_ring_0 ?_
          refine r_iload_1 dX7_ring_1 ?_
          refine r_cV1 mX7_hasRing dX7_ring_2 ml_X7_210 mo_X7_hasRing rfl (k_ring1 hb.1 i3.1 hJ k31 _) (by decide) ?_
          rw [b2i_t hx]
          refine r_if_eq 12 dX7_ring_5 (by decide) (fun c_5 => by exact absurd c_5 (by decide)) (fun c_5 => ?_)
          refine r_iload_2 dX7_ring_8 ?_
          refine r_if_ge 18 dX7_ring_9 (by decide) (fun c_9 => by exact absurd c_9 hy) (fun c_9 => ?_)
          refine r_aload_0 dX7_ring_12 ?_
          refine r_iconst (v := 1) dX7_ring_13 (by decide) ?_
          refine r_cV1 mX7_refuse dX7_ring_14 ml_X7_65 mo_X7_refuse rfl (k_refuse h 1) (by decide) ?_
          refine r_iret dX7_ring_17 rfl ?_
          exact ⟨rfl, rfl⟩
        · refine Con.mk (by decide) ?_
          show RT _ _ 0 [some (.ref 74), some (.int (nI k)), some (.int y)] [] _ _
          refine r_aload_0 dX8_ring_0 ?_
          refine r_iload_1 dX8_ring_1 ?_
          refine r_i2l dX8_ring_2 ?_
          refine r_lconst (v := 0) dX8_ring_3 (by decide) ?_
          refine r_aload_0 dX8_ring_4 ?_
          refine r_getI dX8_ring_5 fl_X8_288 rfl ?_
          rw [f34 1]
          refine r_iconst (v := 1) dX8_ring_8 (by decide) ?_
          refine r_isub dX8_ring_9 ?_
          refine r_i2l dX8_ring_10 ?_
          refine r_cS3 mX8_in dX8_ring_11 ml_X8_131 mo_X8_in (q_in _ _ _ _) (by decide) ?_
          rw [b2i_c (in_lt (by omega)), b2i_t hx]
          refine r_if_eq 25 dX8_ring_14 (by decide) (fun c_14 => by exact absurd c_14 (by decide)) (fun c_14 => ?_)
          refine r_iload_2 dX8_ring_17 ?_
          refine r_if_lt 25 dX8_ring_18 (by decide) (fun c_18 => ?_) (fun c_18 => by exact absurd (show y < 0 by rw [fa_lt]; rw [fa_le] at hy; omega) c_18)
          refine r_iconst (v := 0) dX8_ring_25 (by decide) ?_
          refine r_cS1 mX8_unless dX8_ring_26 ml_X8_330 mo_X8_unless (q_unless _ _) (by decide) ?_
          rw [un0]
          refine r_cV1 mX8_isRefused dX8_ring_29 ml_X8_245 mo_X8_isRefused rfl (q_isRefused _ _) (by decide) ?_
          rw [b2i_t (by decide)]
          refine r_if_eq 37 dX8_ring_32 (by decide) (fun c_32 => by exact absurd c_32 (by decide)) (fun c_32 => ?_)
          refine r_iconst (v := (-1)) dX8_ring_35 (by decide) ?_
          refine r_iret dX8_ring_36 rfl ?_
          exact ⟨rfl, rfl⟩
    · refine ⟨.int (-1), 1, by decide, ?_, ?_⟩
      · refine Con.mk (by decide) ?_
        show RT _ _ 0 [some (.ref 0), some (.int x), some (.int y)] [] _ _
        refine r_aload_0 dX7_ring_0 ?_
        refine r_iload_1 dX7_ring_1 ?_
        refine r_cV1 mX7_hasRing dX7_ring_2 ml_X7_210 mo_X7_hasRing rfl (k_ring1 hb.1 i3.1 hJ k31 _) (by decide) ?_
        rw [b2i_f hx]
        refine r_if_eq 12 dX7_ring_5 (by decide) (fun c_5 => ?_) (fun c_5 => by exact absurd rfl c_5)
        refine r_aload_0 dX7_ring_12 ?_
        refine r_iconst (v := 1) dX7_ring_13 (by decide) ?_
        refine r_cV1 mX7_refuse dX7_ring_14 ml_X7_65 mo_X7_refuse rfl (k_refuse h 1) (by decide) ?_
        refine r_iret dX7_ring_17 rfl ?_
        exact ⟨rfl, rfl⟩
      · refine Con.mk (by decide) ?_
        show RT _ _ 0 [some (.ref 74), some (.int x), some (.int y)] [] _ _
        refine r_aload_0 dX8_ring_0 ?_
        refine r_iload_1 dX8_ring_1 ?_
        refine r_i2l dX8_ring_2 ?_
        refine r_lconst (v := 0) dX8_ring_3 (by decide) ?_
        refine r_aload_0 dX8_ring_4 ?_
        refine r_getI dX8_ring_5 fl_X8_288 rfl ?_
        rw [f34 1]
        refine r_iconst (v := 1) dX8_ring_8 (by decide) ?_
        refine r_isub dX8_ring_9 ?_
        refine r_i2l dX8_ring_10 ?_
        refine r_cS3 mX8_in dX8_ring_11 ml_X8_131 mo_X8_in (q_in _ _ _ _) (by decide) ?_
        rw [b2i_c (in_lt (by omega)), b2i_f hx]
        refine r_if_eq 25 dX8_ring_14 (by decide) (fun c_14 => ?_) (fun c_14 => by exact absurd rfl c_14)
        refine r_iconst (v := 0) dX8_ring_25 (by decide) ?_
        refine r_cS1 mX8_unless dX8_ring_26 ml_X8_330 mo_X8_unless (q_unless _ _) (by decide) ?_
        rw [un0]
        refine r_cV1 mX8_isRefused dX8_ring_29 ml_X8_245 mo_X8_isRefused rfl (q_isRefused _ _) (by decide) ?_
        rw [b2i_t (by decide)]
        refine r_if_eq 37 dX8_ring_32 (by decide) (fun c_32 => by exact absurd c_32 (by decide)) (fun c_32 => ?_)
        refine r_iconst (v := (-1)) dX8_ring_35 (by decide) ?_
        refine r_iret dX8_ring_36 rfl ?_
        exact ⟨rfl, rfl⟩
  · have hJ0 : NT.J t = 0 := by omega
    have f34 : ∀ z, (clH h z).1 74 34 = nI 0 := fun z => by rw [clH_1 (by decide)]; exact i6.2.2.2.2.1 hJ0
    have hx : ¬ (0 ≤ x ∧ x < nI 0) := fun q => by
      have h1 := q.1
      have h2 := q.2
      rw [fa_le] at h1; rw [fa_lt] at h2
      have e : (nI 0).toInt = (0 : Int32).toInt := rfl
      rw [e] at h2; omega
    refine ⟨.int (-1), 1, by decide, ?_, ?_⟩
    · refine Con.mk (by decide) ?_
      show RT _ _ 0 [some (.ref 0), some (.int x), some (.int y)] [] _ _
      refine r_aload_0 dX7_ring_0 ?_
      refine r_iload_1 dX7_ring_1 ?_
      refine r_cV1 mX7_hasRing dX7_ring_2 ml_X7_210 mo_X7_hasRing rfl (k_ring0 (by rw [i3.1, hJ0]) _) (by decide) ?_
      refine r_if_eq 12 dX7_ring_5 (by decide) (fun c_5 => ?_) (fun c_5 => by exact absurd rfl c_5)
      refine r_aload_0 dX7_ring_12 ?_
      refine r_iconst (v := 1) dX7_ring_13 (by decide) ?_
      refine r_cV1 mX7_refuse dX7_ring_14 ml_X7_65 mo_X7_refuse rfl (k_refuse h 1) (by decide) ?_
      refine r_iret dX7_ring_17 rfl ?_
      exact ⟨rfl, rfl⟩
    · refine Con.mk (by decide) ?_
      show RT _ _ 0 [some (.ref 74), some (.int x), some (.int y)] [] _ _
      refine r_aload_0 dX8_ring_0 ?_
      refine r_iload_1 dX8_ring_1 ?_
      refine r_i2l dX8_ring_2 ?_
      refine r_lconst (v := 0) dX8_ring_3 (by decide) ?_
      refine r_aload_0 dX8_ring_4 ?_
      refine r_getI dX8_ring_5 fl_X8_288 rfl ?_
      rw [f34 1]
      refine r_iconst (v := 1) dX8_ring_8 (by decide) ?_
      refine r_isub dX8_ring_9 ?_
      refine r_i2l dX8_ring_10 ?_
      refine r_cS3 mX8_in dX8_ring_11 ml_X8_131 mo_X8_in (q_in _ _ _ _) (by decide) ?_
      rw [b2i_c (in_lt (by omega)), b2i_f hx]
      refine r_if_eq 25 dX8_ring_14 (by decide) (fun c_14 => ?_) (fun c_14 => by exact absurd rfl c_14)
      refine r_iconst (v := 0) dX8_ring_25 (by decide) ?_
      refine r_cS1 mX8_unless dX8_ring_26 ml_X8_330 mo_X8_unless (q_unless _ _) (by decide) ?_
      rw [un0]
      refine r_cV1 mX8_isRefused dX8_ring_29 ml_X8_245 mo_X8_isRefused rfl (q_isRefused _ _) (by decide) ?_
      rw [b2i_t (by decide)]
      refine r_if_eq 37 dX8_ring_32 (by decide) (fun c_32 => by exact absurd c_32 (by decide)) (fun c_32 => ?_)
      refine r_iconst (v := (-1)) dX8_ring_35 (by decide) ?_
      refine r_iret dX8_ring_36 rfl ?_
      exact ⟨rfl, rfl⟩

set_option maxRecDepth 100000 in
set_option maxHeartbeats 4000000 in
theorem o_sum {h : PH} (i : INV h) (x : Int32) (y : Int32) : Same mX7_sum 3 [.ref 0, .int x, .int y] mX8_sum 4 [.ref 74, .int x, .int y] h := by
  obtain ⟨n, bs, tr, fl, wp, t, nm, ac, ms, i1, i2, i3, i4, i5, i6⟩ := i
  have hb := i3.e
  by_cases hJ : 0 < NT.J t
  · skip
    obtain ⟨tx0, -, -, sc0, -, -, -⟩ := i3.2.2.2 hJ
    have k31 : h.1 31 0 = nI (rgS (snOf t) (solveS (snOf t)).1).length := sc0.2.2.2.2.2.2.1.1
    have r14 : (rgS (snOf t) (solveS (snOf t)).1).length ≤ 14 := tx0.1.ok.rings _
    have f34 : ∀ z, (clH h z).1 74 34 = nI (rgS (snOf t) (solveS (snOf t)).1).length := fun z => by rw [clH_1 (by decide)]; exact (i6.2.2.2.2.2 hJ).2.1.2.2.2.2.2.2.1.1
    by_cases hx : 0 ≤ x ∧ x < nI (rgS (snOf t) (solveS (snOf t)).1).length
    · obtain ⟨k, hkl, rfl⟩ := ex_nat (by omega) hx
      by_cases hy : 0 ≤ y ∧ y < nI (1 + 1)
      · skip
        obtain ⟨tx, nok, mok, sc, nac, acc, mec⟩ := (i3.k (clH_kC (x := 0))).2.2.2 hJ
        have ok := tx.1
        have hE14 := ok.2.2.1
        have hJ9 := ok.2.1
        obtain ⟨nc, s9, s10, s12, s11, tc, rc, flc, hdc⟩ := sc
        obtain ⟨-, -, m44, m46, -, mm⟩ := (i6.k (clH_kM (x := 0))).rf 0
        obtain ⟨rwm, sm, nam, acm, mem⟩ := mm hJ
        obtain ⟨ncm, p28, p39, p41, p40, tcm, rcm, flm, hdm⟩ := sm
        have hL : (rgS (snOf t) (solveS (snOf t)).1).getD k [] ∈ (rgS (snOf t) (solveS (snOf t)).1) := by rw [List.getD_eq_getElem?_getD, List.getElem?_eq_getElem hkl]; exact List.getElem_mem _
        have rk := ok.ok.ring _ hL
        have hm : ∀ q ∈ (rgS (snOf t) (solveS (snOf t)).1).getD k [], q.1 < NT.E t := fun q hq => by have := rk.2.2.2 q hq; simp only [gl, Bool.and_eq_true, decide_eq_true_eq] at this; exact this.1
        have ra : RAt (clH h 0) 31 k ((rgS (snOf t) (solveS (snOf t)).1).getD k []) := rc.2 k hkl
        have ram := rcm.2 k hkl
        obtain ⟨c, hc, rfl⟩ := ex_nat2 (by decide) hy
        have hcc : c = 0 ∨ c = 1 := by omega
        rcases hcc with rfl | rfl
        · refine ⟨.long (rSum (lsT t) (flS (snOf t) (solveS (snOf t)).1 60).1 ((rgS (snOf t) (solveS (snOf t)).1).getD k [])), 0, by decide, ?_, ?_⟩
          · refine Con.mk (by decide) ?_
            show RT _ _ 0 [some (.ref 0), some (.int (nI k)), some (.int (nI 0))] [] _ _
            refine r_aload_0 dX7_sum_0 ?_
            refine r_iload_1 dX7_sum_1 ?_
            refine r_cV1 mX7_hasRing dX7_sum_2 ml_X7_210 mo_X7_hasRing rfl (k_ring1 hb.1 i3.1 hJ k31 _) (by decide) ?_
            rw [b2i_t hx]
            refine r_if_eq 17 dX7_sum_5 (by decide) (fun c_5 => by exact absurd c_5 (by decide)) (fun c_5 => ?_)
            refine r_iload_2 dX7_sum_8 ?_
            refine r_if_lt 17 dX7_sum_9 (by decide) (fun c_9 => by exact absurd c_9 (by decide)) (fun c_9 => ?_)
            refine r_iload_2 dX7_sum_12 ?_
            refine r_iconst (v := 1) dX7_sum_13 (by decide) ?_
            refine r_icmp_le 23 dX7_sum_14 (by decide) (fun c_14 => ?_) (fun c_14 => by exact absurd (show nI 0 ≤ 1 by decide) c_14)
            refine r_aload_0 dX7_sum_23 ?_
            refine r_cW0 mX7_allow dX7_sum_24 ml_X7_79 mo_X7_allow rfl (k_allow h) (by decide) ?_
            refine r_iload_2 dX7_sum_27 ?_
            refine r_if_ne 42 dX7_sum_28 (by decide) (fun c_28 => by exact absurd rfl c_28) (fun c_28 => ?_)
            refine r_aload_0 dX7_sum_31 ?_
            refine r_getR (a := 14) dX7_sum_32 fl_X7_29 rfl rfl ?_
            refine r_iload_1 dX7_sum_35 ?_
            refine r_cV1 mX6_ringSum dX7_sum_36 ml_X7_216 mo_X6_ringSum rfl (k_ringSum isW14 ok nc (by omega) ra rk.2.1 hm _ (fun e he => flc e he)) (by decide) ?_
            refine r_goto 50 dX7_sum_39 (by decide) ?_
            refine r_lret dX7_sum_50 rfl ?_
            exact ⟨rfl, rfl⟩
          · refine Con.mk (by decide) ?_
            show RT _ _ 0 [some (.ref 74), some (.int (nI k)), some (.int (nI 0))] [] _ _
            refine r_aload_0 dX8_sum_0 ?_
            refine r_iload_1 dX8_sum_1 ?_
            refine r_i2l dX8_sum_2 ?_
            refine r_lconst (v := 0) dX8_sum_3 (by decide) ?_
            refine r_aload_0 dX8_sum_4 ?_
            refine r_getI dX8_sum_5 fl_X8_288 rfl ?_
            rw [f34 0]
            refine r_iconst (v := 1) dX8_sum_8 (by decide) ?_
            refine r_isub dX8_sum_9 ?_
            refine r_i2l dX8_sum_10 ?_
            refine r_cS3 mX8_in dX8_sum_11 ml_X8_131 mo_X8_in (q_in _ _ _ _) (by decide) ?_
            rw [b2i_c (in_lt (by omega)), b2i_t hx]
            refine r_if_eq 31 dX8_sum_14 (by decide) (fun c_14 => by exact absurd c_14 (by decide)) (fun c_14 => ?_)
            refine r_iload_2 dX8_sum_17 ?_
            refine r_i2l dX8_sum_18 ?_
            refine r_lconst (v := 0) dX8_sum_19 (by decide) ?_
            refine r_lconst (v := 1) dX8_sum_20 (by decide) ?_
            refine r_cS3 mX8_in dX8_sum_21 ml_X8_131 mo_X8_in (q_in _ _ _ _) (by decide) ?_
            rw [b2i_t (by decide +kernel)]
            refine r_if_eq 31 dX8_sum_24 (by decide) (fun c_24 => by exact absurd c_24 (by decide)) (fun c_24 => ?_)
            refine r_iconst (v := 1) dX8_sum_27 (by decide) ?_
            refine r_goto 32 dX8_sum_28 (by decide) ?_
            refine r_cS1 mX8_unless dX8_sum_32 ml_X8_330 mo_X8_unless (q_unless _ _) (by decide) ?_
            rw [un1]
            refine r_cV1 mX8_isRefused dX8_sum_35 ml_X8_245 mo_X8_isRefused rfl (q_isRefused _ _) (by decide) ?_
            rw [b2i_f (by decide)]
            refine r_if_eq 45 dX8_sum_38 (by decide) (fun c_38 => ?_) (fun c_38 => by exact absurd rfl c_38)
            refine r_iload_2 dX8_sum_45 ?_
            refine r_if_ne 57 dX8_sum_46 (by decide) (fun c_46 => by exact absurd rfl c_46) (fun c_46 => ?_)
            refine r_aload_0 dX8_sum_49 ?_
            refine r_iload_1 dX8_sum_50 ?_
            refine r_cV1 mX8_ringSum dX8_sum_51 ml_X8_337 mo_X8_ringSum rfl (q_mSum ok ncm (by omega) ram rk.2.1 hm _ (fun e he => flm e he)) (by decide) ?_
            refine r_goto 62 dX8_sum_54 (by decide) ?_
            refine r_lret dX8_sum_62 rfl ?_
            exact ⟨rfl, rfl⟩
        · refine ⟨.long (rStp (spT t) (flS (snOf t) (solveS (snOf t)).1 60).1 ((rgS (snOf t) (solveS (snOf t)).1).getD k [])), 0, by decide, ?_, ?_⟩
          · refine Con.mk (by decide) ?_
            show RT _ _ 0 [some (.ref 0), some (.int (nI k)), some (.int (nI 1))] [] _ _
            refine r_aload_0 dX7_sum_0 ?_
            refine r_iload_1 dX7_sum_1 ?_
            refine r_cV1 mX7_hasRing dX7_sum_2 ml_X7_210 mo_X7_hasRing rfl (k_ring1 hb.1 i3.1 hJ k31 _) (by decide) ?_
            rw [b2i_t hx]
            refine r_if_eq 17 dX7_sum_5 (by decide) (fun c_5 => by exact absurd c_5 (by decide)) (fun c_5 => ?_)
            refine r_iload_2 dX7_sum_8 ?_
            refine r_if_lt 17 dX7_sum_9 (by decide) (fun c_9 => by exact absurd c_9 (by decide)) (fun c_9 => ?_)
            refine r_iload_2 dX7_sum_12 ?_
            refine r_iconst (v := 1) dX7_sum_13 (by decide) ?_
            refine r_icmp_le 23 dX7_sum_14 (by decide) (fun c_14 => ?_) (fun c_14 => by exact absurd (show nI 1 ≤ 1 by decide) c_14)
            refine r_aload_0 dX7_sum_23 ?_
            refine r_cW0 mX7_allow dX7_sum_24 ml_X7_79 mo_X7_allow rfl (k_allow h) (by decide) ?_
            refine r_iload_2 dX7_sum_27 ?_
            refine r_if_ne 42 dX7_sum_28 (by decide) (fun c_28 => ?_) (fun c_28 => by exact absurd c_28 (by decide))
            refine r_aload_0 dX7_sum_42 ?_
            refine r_getR (a := 14) dX7_sum_43 fl_X7_29 rfl rfl ?_
            refine r_iload_1 dX7_sum_46 ?_
            refine r_cV1 mX6_ringSteep dX7_sum_47 ml_X7_219 mo_X6_ringSteep rfl (k_ringSteep isW14 ok nc (by omega) ra rk.2.1 hm _ (fun e he => flc e he)) (by decide) ?_
            refine r_lret dX7_sum_50 rfl ?_
            exact ⟨rfl, rfl⟩
          · refine Con.mk (by decide) ?_
            show RT _ _ 0 [some (.ref 74), some (.int (nI k)), some (.int (nI 1))] [] _ _
            refine r_aload_0 dX8_sum_0 ?_
            refine r_iload_1 dX8_sum_1 ?_
            refine r_i2l dX8_sum_2 ?_
            refine r_lconst (v := 0) dX8_sum_3 (by decide) ?_
            refine r_aload_0 dX8_sum_4 ?_
            refine r_getI dX8_sum_5 fl_X8_288 rfl ?_
            rw [f34 0]
            refine r_iconst (v := 1) dX8_sum_8 (by decide) ?_
            refine r_isub dX8_sum_9 ?_
            refine r_i2l dX8_sum_10 ?_
            refine r_cS3 mX8_in dX8_sum_11 ml_X8_131 mo_X8_in (q_in _ _ _ _) (by decide) ?_
            rw [b2i_c (in_lt (by omega)), b2i_t hx]
            refine r_if_eq 31 dX8_sum_14 (by decide) (fun c_14 => by exact absurd c_14 (by decide)) (fun c_14 => ?_)
            refine r_iload_2 dX8_sum_17 ?_
            refine r_i2l dX8_sum_18 ?_
            refine r_lconst (v := 0) dX8_sum_19 (by decide) ?_
            refine r_lconst (v := 1) dX8_sum_20 (by decide) ?_
            refine r_cS3 mX8_in dX8_sum_21 ml_X8_131 mo_X8_in (q_in _ _ _ _) (by decide) ?_
            rw [b2i_t (by decide +kernel)]
            refine r_if_eq 31 dX8_sum_24 (by decide) (fun c_24 => by exact absurd c_24 (by decide)) (fun c_24 => ?_)
            refine r_iconst (v := 1) dX8_sum_27 (by decide) ?_
            refine r_goto 32 dX8_sum_28 (by decide) ?_
            refine r_cS1 mX8_unless dX8_sum_32 ml_X8_330 mo_X8_unless (q_unless _ _) (by decide) ?_
            rw [un1]
            refine r_cV1 mX8_isRefused dX8_sum_35 ml_X8_245 mo_X8_isRefused rfl (q_isRefused _ _) (by decide) ?_
            rw [b2i_f (by decide)]
            refine r_if_eq 45 dX8_sum_38 (by decide) (fun c_38 => ?_) (fun c_38 => by exact absurd rfl c_38)
            refine r_iload_2 dX8_sum_45 ?_
            refine r_if_ne 57 dX8_sum_46 (by decide) (fun c_46 => ?_) (fun c_46 => by exact absurd c_46 (by decide))
            refine r_aload_0 dX8_sum_57 ?_
            refine r_iload_1 dX8_sum_58 ?_
            refine r_cV1 mX8_ringSteep dX8_sum_59 ml_X8_340 mo_X8_ringSteep rfl (q_mStp ok ncm (by omega) ram rk.2.1 hm _ (fun e he => flm e he)) (by decide) ?_
            refine r_lret dX8_sum_62 rfl ?_
            exact ⟨rfl, rfl⟩
      · refine ⟨.long (-9223372036854775808), 1, by decide, ?_, ?_⟩
        · refine Con.mk (by decide) ?_
          show RT _ _ 0 [some (.ref 0), some (.int (nI k)), some (.int y)] [] _ _
          refine r_aload_0 dX7_sum_0 ?_
          refine r_iload_1 dX7_sum_1 ?_
          refine r_cV1 mX7_hasRing dX7_sum_2 ml_X7_210 mo_X7_hasRing rfl (k_ring1 hb.1 i3.1 hJ k31 _) (by decide) ?_
          rw [b2i_t hx]
          refine r_if_eq 17 dX7_sum_5 (by decide) (fun c_5 => by exact absurd c_5 (by decide)) (fun c_5 => ?_)
          refine r_iload_2 dX7_sum_8 ?_
          refine r_if_lt 17 dX7_sum_9 (by decide) (fun c_9 => ?_) (fun c_9 => ?_)
          · refine r_aload_0 dX7_sum_17 ?_
            refine r_iconst (v := 1) dX7_sum_18 (by decide) ?_
            refine r_cV1 mX7_refuseLong dX7_sum_19 ml_X7_171 mo_X7_refuseLong rfl (k_refuseL h 1) (by decide) ?_
            refine r_lret dX7_sum_22 rfl ?_
            exact ⟨rfl, rfl⟩
          · refine r_iload_2 dX7_sum_12 ?_
            refine r_iconst (v := nI 1) dX7_sum_13 (by decide) ?_
            refine r_icmp_le 23 dX7_sum_14 (by decide) (fun c_14 => ?_) (fun c_14 => ?_)
            · exact absurd (rng (by decide) c_9 c_14) hy
            · refine r_aload_0 dX7_sum_17 ?_
              refine r_iconst (v := 1) dX7_sum_18 (by decide) ?_
              refine r_cV1 mX7_refuseLong dX7_sum_19 ml_X7_171 mo_X7_refuseLong rfl (k_refuseL h 1) (by decide) ?_
              refine r_lret dX7_sum_22 rfl ?_
              exact ⟨rfl, rfl⟩
        · refine Con.mk (by decide) ?_
          show RT _ _ 0 [some (.ref 74), some (.int (nI k)), some (.int y)] [] _ _
          refine r_aload_0 dX8_sum_0 ?_
          refine r_iload_1 dX8_sum_1 ?_
          refine r_i2l dX8_sum_2 ?_
          refine r_lconst (v := 0) dX8_sum_3 (by decide) ?_
          refine r_aload_0 dX8_sum_4 ?_
          refine r_getI dX8_sum_5 fl_X8_288 rfl ?_
          rw [f34 1]
          refine r_iconst (v := 1) dX8_sum_8 (by decide) ?_
          refine r_isub dX8_sum_9 ?_
          refine r_i2l dX8_sum_10 ?_
          refine r_cS3 mX8_in dX8_sum_11 ml_X8_131 mo_X8_in (q_in _ _ _ _) (by decide) ?_
          rw [b2i_c (in_lt (by omega)), b2i_t hx]
          refine r_if_eq 31 dX8_sum_14 (by decide) (fun c_14 => by exact absurd c_14 (by decide)) (fun c_14 => ?_)
          refine r_iload_2 dX8_sum_17 ?_
          refine r_i2l dX8_sum_18 ?_
          refine r_lconst (v := 0) dX8_sum_19 (by decide) ?_
          refine r_lconst (v := 1) dX8_sum_20 (by decide) ?_
          refine r_cS3 mX8_in dX8_sum_21 ml_X8_131 mo_X8_in (q_in _ _ _ _) (by decide) ?_
          rw [b2i_f (fun q => hy ((in_k (n := 1) (by decide +kernel) (by decide)).mp q))]
          refine r_if_eq 31 dX8_sum_24 (by decide) (fun c_24 => ?_) (fun c_24 => by exact absurd rfl c_24)
          refine r_iconst (v := 0) dX8_sum_31 (by decide) ?_
          refine r_cS1 mX8_unless dX8_sum_32 ml_X8_330 mo_X8_unless (q_unless _ _) (by decide) ?_
          rw [un0]
          refine r_cV1 mX8_isRefused dX8_sum_35 ml_X8_245 mo_X8_isRefused rfl (q_isRefused _ _) (by decide) ?_
          rw [b2i_t (by decide)]
          refine r_if_eq 45 dX8_sum_38 (by decide) (fun c_38 => by exact absurd c_38 (by decide)) (fun c_38 => ?_)
          refine r_ldc2 dX8_sum_41 ks_X8_102 ?_
          refine r_lret dX8_sum_44 rfl ?_
          exact ⟨rfl, rfl⟩
    · refine ⟨.long (-9223372036854775808), 1, by decide, ?_, ?_⟩
      · refine Con.mk (by decide) ?_
        show RT _ _ 0 [some (.ref 0), some (.int x), some (.int y)] [] _ _
        refine r_aload_0 dX7_sum_0 ?_
        refine r_iload_1 dX7_sum_1 ?_
        refine r_cV1 mX7_hasRing dX7_sum_2 ml_X7_210 mo_X7_hasRing rfl (k_ring1 hb.1 i3.1 hJ k31 _) (by decide) ?_
        rw [b2i_f hx]
        refine r_if_eq 17 dX7_sum_5 (by decide) (fun c_5 => ?_) (fun c_5 => by exact absurd rfl c_5)
        refine r_aload_0 dX7_sum_17 ?_
        refine r_iconst (v := 1) dX7_sum_18 (by decide) ?_
        refine r_cV1 mX7_refuseLong dX7_sum_19 ml_X7_171 mo_X7_refuseLong rfl (k_refuseL h 1) (by decide) ?_
        refine r_lret dX7_sum_22 rfl ?_
        exact ⟨rfl, rfl⟩
      · refine Con.mk (by decide) ?_
        show RT _ _ 0 [some (.ref 74), some (.int x), some (.int y)] [] _ _
        refine r_aload_0 dX8_sum_0 ?_
        refine r_iload_1 dX8_sum_1 ?_
        refine r_i2l dX8_sum_2 ?_
        refine r_lconst (v := 0) dX8_sum_3 (by decide) ?_
        refine r_aload_0 dX8_sum_4 ?_
        refine r_getI dX8_sum_5 fl_X8_288 rfl ?_
        rw [f34 1]
        refine r_iconst (v := 1) dX8_sum_8 (by decide) ?_
        refine r_isub dX8_sum_9 ?_
        refine r_i2l dX8_sum_10 ?_
        refine r_cS3 mX8_in dX8_sum_11 ml_X8_131 mo_X8_in (q_in _ _ _ _) (by decide) ?_
        rw [b2i_c (in_lt (by omega)), b2i_f hx]
        refine r_if_eq 31 dX8_sum_14 (by decide) (fun c_14 => ?_) (fun c_14 => by exact absurd rfl c_14)
        refine r_iconst (v := 0) dX8_sum_31 (by decide) ?_
        refine r_cS1 mX8_unless dX8_sum_32 ml_X8_330 mo_X8_unless (q_unless _ _) (by decide) ?_
        rw [un0]
        refine r_cV1 mX8_isRefused dX8_sum_35 ml_X8_245 mo_X8_isRefused rfl (q_isRefused _ _) (by decide) ?_
        rw [b2i_t (by decide)]
        refine r_if_eq 45 dX8_sum_38 (by decide) (fun c_38 => by exact absurd c_38 (by decide)) (fun c_38 => ?_)
        refine r_ldc2 dX8_sum_41 ks_X8_102 ?_
        refine r_lret dX8_sum_44 rfl ?_
        exact ⟨rfl, rfl⟩
  · have hJ0 : NT.J t = 0 := by omega
    have f34 : ∀ z, (clH h z).1 74 34 = nI 0 := fun z => by rw [clH_1 (by decide)]; exact i6.2.2.2.2.1 hJ0
    have hx : ¬ (0 ≤ x ∧ x < nI 0) := fun q => by
      have h1 := q.1
      have h2 := q.2
      rw [fa_le] at h1; rw [fa_lt] at h2
      have e : (nI 0).toInt = (0 : Int32).toInt := rfl
      rw [e] at h2; omega
    refine ⟨.long (-9223372036854775808), 1, by decide, ?_, ?_⟩
    · refine Con.mk (by decide) ?_
      show RT _ _ 0 [some (.ref 0), some (.int x), some (.int y)] [] _ _
      refine r_aload_0 dX7_sum_0 ?_
      refine r_iload_1 dX7_sum_1 ?_
      refine r_cV1 mX7_hasRing dX7_sum_2 ml_X7_210 mo_X7_hasRing rfl (k_ring0 (by rw [i3.1, hJ0]) _) (by decide) ?_
      refine r_if_eq 17 dX7_sum_5 (by decide) (fun c_5 => ?_) (fun c_5 => by exact absurd rfl c_5)
      refine r_aload_0 dX7_sum_17 ?_
      refine r_iconst (v := 1) dX7_sum_18 (by decide) ?_
      refine r_cV1 mX7_refuseLong dX7_sum_19 ml_X7_171 mo_X7_refuseLong rfl (k_refuseL h 1) (by decide) ?_
      refine r_lret dX7_sum_22 rfl ?_
      exact ⟨rfl, rfl⟩
    · refine Con.mk (by decide) ?_
      show RT _ _ 0 [some (.ref 74), some (.int x), some (.int y)] [] _ _
      refine r_aload_0 dX8_sum_0 ?_
      refine r_iload_1 dX8_sum_1 ?_
      refine r_i2l dX8_sum_2 ?_
      refine r_lconst (v := 0) dX8_sum_3 (by decide) ?_
      refine r_aload_0 dX8_sum_4 ?_
      refine r_getI dX8_sum_5 fl_X8_288 rfl ?_
      rw [f34 1]
      refine r_iconst (v := 1) dX8_sum_8 (by decide) ?_
      refine r_isub dX8_sum_9 ?_
      refine r_i2l dX8_sum_10 ?_
      refine r_cS3 mX8_in dX8_sum_11 ml_X8_131 mo_X8_in (q_in _ _ _ _) (by decide) ?_
      rw [b2i_c (in_lt (by omega)), b2i_f hx]
      refine r_if_eq 31 dX8_sum_14 (by decide) (fun c_14 => ?_) (fun c_14 => by exact absurd rfl c_14)
      refine r_iconst (v := 0) dX8_sum_31 (by decide) ?_
      refine r_cS1 mX8_unless dX8_sum_32 ml_X8_330 mo_X8_unless (q_unless _ _) (by decide) ?_
      rw [un0]
      refine r_cV1 mX8_isRefused dX8_sum_35 ml_X8_245 mo_X8_isRefused rfl (q_isRefused _ _) (by decide) ?_
      rw [b2i_t (by decide)]
      refine r_if_eq 45 dX8_sum_38 (by decide) (fun c_38 => by exact absurd c_38 (by decide)) (fun c_38 => ?_)
      refine r_ldc2 dX8_sum_41 ks_X8_102 ?_
      refine r_lret dX8_sum_44 rfl ?_
      exact ⟨rfl, rfl⟩

