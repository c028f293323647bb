/-! ===== both: weakest, head, pressure, work, balance ===== -/
theorem rfH_pI {h : PH} {x y : Int32} : pI (rfH h x) 74 1 y = rfH h y := by
  unfold rfH pI
  refine Prod.ext (funext fun a => funext fun b => ?_) rfl
  by_cases q : a = 74 ∧ b = 1
  · simp [q]
  · simp [q]
theorem un1 : (if (1 : Int32) = 0 then (1 : Int32) else 0) = 0 := by decide
theorem un0 : (if (0 : Int32) = 0 then (1 : Int32) else 0) = 1 := by decide
theorem hd_at {h : PH} {t : NT} (ok : okT t) (sh : Int32) {c : Nat} (hh : ∀ i, i < (trS (snOf t) sh).1 → h.2 c ((trS (snOf t) sh).2.1 i) = hdS (snOf t) sh ((trS (snOf t) sh).2.1 i)) : ∀ j, (trS (snOf t) sh).2.2.2 j = true → h.2 c j = hdS (snOf t) sh j := fun j hj => by
  obtain ⟨i, hi, rfl, -⟩ := (ok.tw sh).at hj
  exact hh i hi
set_option maxRecDepth 100000 in
set_option maxHeartbeats 4000000 in
theorem k_why {h : PH} {n : Nat} (hn : n < 15) (hf : h.1 15 0 = nI n) {x : Int32} (hx : ¬ (0 ≤ x ∧ x < nI n)) : ConF mX7_whyNoWaterAt 2 [.ref 0, .int x] h (some (.int 1)) h := by
  refine Con.mk (by decide) ?_
  show RT _ _ 0 [some (.ref 0), some (.int x)] [] _ _
  refine r_aload_0 dX7_whyNoWaterAt_0 ?_
  refine r_getR (a := 15) dX7_whyNoWaterAt_1 fl_X7_37 rfl rfl ?_
  refine r_iload_1 dX7_whyNoWaterAt_4 ?_
  refine r_cV1 mX2_hasJoint dX7_whyNoWaterAt_5 ml_X7_183 mo_X2_hasJoint rfl (k_X2_hasJoint isN15 h x) (by decide) ?_
  rw [hf, b2i_f hx]
  refine r_if_ne 13 dX7_whyNoWaterAt_8 (by decide) (fun c_8 => by exact absurd rfl c_8) (fun c_8 => ?_)
  refine r_iconst (v := 1) dX7_whyNoWaterAt_11 (by decide) ?_
  refine r_iret dX7_whyNoWaterAt_12 rfl ?_
  exact ⟨rfl, rfl⟩

set_option maxRecDepth 100000 in
set_option maxHeartbeats 4000000 in
theorem k_why2 {h : PH} {n : Nat} (hn : n < 15) (hf : h.1 15 0 = nI n) {s : TS} (tc : ∀ i, i < 32 → bt (h.1 25 0) i = s.2.2.2 i) {j : Nat} (hx : 0 ≤ nI j ∧ nI j < nI n) (hj : j < 32) : ConF mX7_whyNoWaterAt 2 [.ref 0, .int (nI j)] h (some (.int (if s.2.2.2 j = true then 0 else 5))) h := by
  refine Con.mk (by decide) ?_
  show RT _ _ 0 [some (.ref 0), some (.int (nI j))] [] _ _
  refine r_aload_0 dX7_whyNoWaterAt_0 ?_
  refine r_getR (a := 15) dX7_whyNoWaterAt_1 fl_X7_37 rfl rfl ?_
  refine r_iload_1 dX7_whyNoWaterAt_4 ?_
  refine r_cV1 mX2_hasJoint dX7_whyNoWaterAt_5 ml_X7_183 mo_X2_hasJoint rfl (k_X2_hasJoint isN15 h (nI j)) (by decide) ?_
  rw [hf, b2i_t hx]
  refine r_if_ne 13 dX7_whyNoWaterAt_8 (by decide) (fun c_8 => ?_) (fun c_8 => by exact absurd c_8 (by decide))
  refine r_aload_0 dX7_whyNoWaterAt_13 ?_
  refine r_getR (a := 14) dX7_whyNoWaterAt_14 fl_X7_29 rfl rfl ?_
  refine r_getR (a := 25) dX7_whyNoWaterAt_17 fl_X7_161 rfl rfl ?_
  refine r_getI dX7_whyNoWaterAt_20 fl_X7_328 rfl ?_
  refine r_iload_1 dX7_whyNoWaterAt_23 ?_
  refine r_cS2 mX7_bit dX7_whyNoWaterAt_24 ml_X7_157 mo_X7_bit (k_bit _ _ (j := j) hj) (by decide) ?_
  rw [tc j hj]
  refine r_if_ne 34 dX7_whyNoWaterAt_27 (by decide) (fun c_27 => ?_) (fun c_27 => ?_)
  · refine r_iconst (v := 0) dX7_whyNoWaterAt_34 (by decide) ?_
    refine r_iret dX7_whyNoWaterAt_35 rfl ?_
    by_cases q : s.2.2.2 j = true
    · first | exact absurd c_27 (by rw [b2i_t q]; decide) | exact ⟨by rw [if_pos q], rfl⟩
    · first | exact absurd (b2i_f q) c_27 | exact ⟨by rw [if_neg q], rfl⟩
  · refine r_iconst (v := 5) dX7_whyNoWaterAt_30 (by decide) ?_
    refine r_goto 35 dX7_whyNoWaterAt_31 (by decide) ?_
    refine r_iret dX7_whyNoWaterAt_35 rfl ?_
    by_cases q : s.2.2.2 j = true
    · first | exact absurd c_27 (by rw [b2i_t q]; decide) | exact ⟨by rw [if_pos q], rfl⟩
    · first | exact absurd (b2i_f q) c_27 | exact ⟨by rw [if_neg q], rfl⟩

set_option maxRecDepth 100000 in
set_option maxHeartbeats 4000000 in
theorem o_weakest {h : PH} (i : INV h)  : Same mX7_weakest 3 [.ref 0] mX8_weakest 3 [.ref 74] h := by
  obtain ⟨n, bs, tr, fl, wp, t, nm, ac, ms, i1, i2, i3, i4, i5, i6⟩ := i
  have hb := i3.e
  have f6 : ∀ y, (clH h y).1 74 6 = nI (NT.J t) := fun y => by rw [clH_1 (by decide)]; exact i6.1
  by_cases hJ : 0 < NT.J t
  · skip
    obtain ⟨tx, nok, mok, sc, nac, acc, mec⟩ := (i3.k (clH_kC (x := 0))).2.2.2 hJ
    have ok := tx.1
    have hE14 := ok.2.2.1
    have hJ9 := ok.2.1
    obtain ⟨nc, s9, s10, s12, s11, tc, rc, flc, hdc⟩ := sc
    obtain ⟨-, -, m44, m46, -, mm⟩ := (i6.k (clH_kM (x := 0))).rf 0
    obtain ⟨rwm, sm, nam, acm, mem⟩ := mm hJ
    obtain ⟨ncm, p28, p39, p41, p40, tcm, rcm, flm, hdm⟩ := sm
    refine ⟨.int (wI (wkA t (trS (snOf t) (solveS (snOf t)).1) (hdS (snOf t) (solveS (snOf t)).1))), 0, by decide, ?_, ?_⟩
    · refine Con.mk (by decide) ?_
      show RT _ _ 0 [some (.ref 0)] [] _ _
      refine r_aload_0 dX7_weakest_0 ?_
      refine r_cV0 mX7_hasText dX7_weakest_1 ml_X7_101 mo_X7_hasText rfl (k_hasText hb.1 i3.1) (by decide) ?_
      rw [b2i_t hJ]
      refine r_if_ne 13 dX7_weakest_4 (by decide) (fun c_4 => ?_) (fun c_4 => by exact absurd c_4 (by decide))
      refine r_aload_0 dX7_weakest_13 ?_
      refine r_cW0 mX7_allow dX7_weakest_14 ml_X7_79 mo_X7_allow rfl (k_allow h) (by decide) ?_
      refine r_aload_0 dX7_weakest_17 ?_
      refine r_getR (a := 14) dX7_weakest_18 fl_X7_29 rfl rfl ?_
      refine r_cV0 mX6_weakestJoint dX7_weakest_21 ml_X7_207 mo_X6_weakestJoint rfl (k_weak isW14 ok _ nc tc _ (hd_at ok _ hdc)) (by decide) ?_
      refine r_iret dX7_weakest_24 rfl ?_
      exact ⟨rfl, rfl⟩
    · refine Con.mk (by decide) ?_
      show RT _ _ 0 [some (.ref 74)] [] _ _
      refine r_aload_0 dX8_weakest_0 ?_
      refine r_aload_0 dX8_weakest_1 ?_
      refine r_getI dX8_weakest_2 fl_X8_229 rfl ?_
      rw [f6 0]
      refine r_if_le 12 dX8_weakest_5 (by decide) (fun c_5 => by exact absurd c_5 (nI_nle hJ (by omega))) (fun c_5 => ?_)
      refine r_iconst (v := 1) dX8_weakest_8 (by decide) ?_
      refine r_goto 13 dX8_weakest_9 (by decide) ?_
      refine r_cS1 mX8_unless dX8_weakest_13 ml_X8_330 mo_X8_unless (q_unless _ _) (by decide) ?_
      rw [un1]
      refine r_cV1 mX8_isRefused dX8_weakest_16 ml_X8_245 mo_X8_isRefused rfl (q_isRefused _ _) (by decide) ?_
      rw [b2i_f (by decide)]
      refine r_if_eq 26 dX8_weakest_19 (by decide) (fun c_19 => ?_) (fun c_19 => by exact absurd rfl c_19)
      refine r_aload_0 dX8_weakest_26 ?_
      refine r_cV0 mX8_weakestNow dX8_weakest_27 ml_X8_413 mo_X8_weakestNow rfl (q_weak ok _ ncm tcm _ (hd_at ok _ hdm)) (by decide) ?_
      refine r_iret dX8_weakest_30 rfl ?_
      exact ⟨rfl, rfl⟩
  · have hJ0 : NT.J t = 0 := by omega
    refine ⟨.int (-1), 1, by decide, ?_, ?_⟩
    · refine Con.mk (by decide) ?_
      show RT _ _ 0 [some (.ref 0)] [] _ _
      refine r_aload_0 dX7_weakest_0 ?_
      refine r_cV0 mX7_hasText dX7_weakest_1 ml_X7_101 mo_X7_hasText rfl (k_hasText hb.1 i3.1) (by decide) ?_
      rw [b2i_f hJ]
      refine r_if_ne 13 dX7_weakest_4 (by decide) (fun c_4 => by exact absurd rfl c_4) (fun c_4 => ?_)
      refine r_aload_0 dX7_weakest_7 ?_
      refine r_iconst (v := 1) dX7_weakest_8 (by decide) ?_
      refine r_cV1 mX7_refuse dX7_weakest_9 ml_X7_65 mo_X7_refuse rfl (k_refuse h 1) (by decide) ?_
      refine r_iret dX7_weakest_12 rfl ?_
      exact ⟨rfl, rfl⟩
    · refine Con.mk (by decide) ?_
      show RT _ _ 0 [some (.ref 74)] [] _ _
      refine r_aload_0 dX8_weakest_0 ?_
      refine r_aload_0 dX8_weakest_1 ?_
      refine r_getI dX8_weakest_2 fl_X8_229 rfl ?_
      rw [f6 1, hJ0]
      refine r_if_le 12 dX8_weakest_5 (by decide) (fun c_5 => ?_) (fun c_5 => by exact absurd (show nI 0 ≤ 0 by decide) c_5)
      refine r_iconst (v := 0) dX8_weakest_12 (by decide) ?_
      refine r_cS1 mX8_unless dX8_weakest_13 ml_X8_330 mo_X8_unless (q_unless _ _) (by decide) ?_
      rw [un0]
      refine r_cV1 mX8_isRefused dX8_weakest_16 ml_X8_245 mo_X8_isRefused rfl (q_isRefused _ _) (by decide) ?_
      rw [b2i_t (by decide)]
      refine r_if_eq 26 dX8_weakest_19 (by decide) (fun c_19 => by exact absurd c_19 (by decide)) (fun c_19 => ?_)
      refine r_iconst (v := (-1)) dX8_weakest_22 (by decide) ?_
      refine r_goto 30 dX8_weakest_23 (by decide) ?_
      refine r_iret dX8_weakest_30 rfl ?_
      exact ⟨rfl, rfl⟩

set_option maxRecDepth 100000 in
set_option maxHeartbeats 4000000 in
theorem o_head {h : PH} (i : INV h) (x : Int32) : Same mX7_head 3 [.ref 0, .int x] mX8_head 3 [.ref 74, .int x] h := by
  obtain ⟨n, bs, tr, fl, wp, t, nm, ac, ms, i1, i2, i3, i4, i5, i6⟩ := i
  have hb := i3.e
  have f6 : ∀ y, (clH h y).1 74 6 = nI (NT.J t) := fun y => by rw [clH_1 (by decide)]; exact i6.1
  by_cases hx : 0 ≤ x ∧ x < nI (NT.J t)
  · obtain ⟨j, hj, rfl⟩ := ex_nat hb.1 hx
    have hJ : 0 < NT.J t := by omega
    by_cases hm : (trS (snOf t) (solveS (snOf t)).1).2.2.2 j = true
    · skip
      obtain ⟨tx, nok, mok, sc, nac, acc, mec⟩ := (i3.k (clH_kC (x := 0))).2.2.2 hJ
      have ok := tx.1
      have hE14 := ok.2.2.1
      have hJ9 := ok.2.1
      obtain ⟨nc, s9, s10, s12, s11, tc, rc, flc, hdc⟩ := sc
      obtain ⟨-, -, m44, m46, -, mm⟩ := (i6.k (clH_kM (x := 0))).rf 0
      obtain ⟨rwm, sm, nam, acm, mem⟩ := mm hJ
      obtain ⟨ncm, p28, p39, p41, p40, tcm, rcm, flm, hdm⟩ := sm
      have tc0 : ∀ i, i < 32 → bt (h.1 25 0) i = (trS (snOf t) (solveS (snOf t)).1).2.2.2 i := fun i hi => by have := tc.1 i hi; rw [clH_1 (by decide)] at this; exact this
      refine ⟨.long ((hdS (snOf t) (solveS (snOf t)).1) j), 0, by decide, ?_, ?_⟩
      · refine Con.mk (by decide) ?_
        show RT _ _ 0 [some (.ref 0), some (.int (nI j)), none] [] _ _
        refine r_aload_0 dX7_head_0 ?_
        refine r_iload_1 dX7_head_1 ?_
        refine r_cV1 mX7_whyNoWaterAt dX7_head_2 ml_X7_198 mo_X7_whyNoWaterAt rfl (k_why2 hb.1 i3.1 tc0 hx (by omega)) (by decide) ?_
        rw [if_pos hm]
        refine r_istore_2 dX7_head_5 ?_
        refine r_iload_2 dX7_head_6 ?_
        refine r_if_eq 16 dX7_head_7 (by decide) (fun c_7 => ?_) (fun c_7 => by exact absurd rfl c_7)
        refine r_aload_0 dX7_head_16 ?_
        refine r_cW0 mX7_allow dX7_head_17 ml_X7_79 mo_X7_allow rfl (k_allow h) (by decide) ?_
        refine r_aload_0 dX7_head_20 ?_
        refine r_getR (a := 14) dX7_head_21 fl_X7_29 rfl rfl ?_
        refine r_getR (a := 37) dX7_head_24 fl_X7_201 rfl rfl ?_
        refine r_iload_1 dX7_head_27 ?_
        refine r_laldN dX7_head_28 rfl (by omega) ?_
        rw [show (clH h 0).2 37 j = _ from hd_at ok _ hdc j hm]
        refine r_lret dX7_head_29 rfl ?_
        exact ⟨rfl, rfl⟩
      · refine Con.mk (by decide) ?_
        show RT _ _ 0 [some (.ref 74), some (.int (nI j))] [] _ _
        refine r_aload_0 dX8_head_0 ?_
        refine r_aload_0 dX8_head_1 ?_
        refine r_iload_1 dX8_head_2 ?_
        refine r_cV1 mX8_isJoint dX8_head_3 ml_X8_327 mo_X8_isJoint rfl (q_isJoint _ hb.1 (f6 0) _) (by decide) ?_
        refine r_cS1 mX8_unless dX8_head_6 ml_X8_330 mo_X8_unless (q_unless _ _) (by decide) ?_
        rw [goods hx]
        refine r_cV1 mX8_isRefused dX8_head_9 ml_X8_245 mo_X8_isRefused rfl (q_isRefused _ _) (by decide) ?_
        rw [b2i_f (by decide)]
        refine r_if_eq 19 dX8_head_12 (by decide) (fun c_12 => ?_) (fun c_12 => by exact absurd rfl c_12)
        refine r_aload_0 dX8_head_19 ?_
        refine r_iload_1 dX8_head_20 ?_
        refine r_cV1 mX8_isMet dX8_head_21 ml_X8_272 mo_X8_isMet rfl (q_isMet _ (j := j) (by omega)) (by decide) ?_
        rw [tcm.1 j (by omega), hm]
        refine r_if_eq 36 dX8_head_24 (by decide) (fun c_24 => by exact absurd c_24 (by decide)) (fun c_24 => ?_)
        refine r_aload_0 dX8_head_27 ?_
        refine r_getR (a := 91) dX8_head_28 fl_X8_65 rfl rfl ?_
        refine r_iload_1 dX8_head_31 ?_
        refine r_laldN dX8_head_32 rfl (by omega) ?_
        rw [hd_at ok _ hdm j hm]
        refine r_goto 41 dX8_head_33 (by decide) ?_
        refine r_lret dX8_head_41 rfl ?_
        exact ⟨rfl, rfl⟩
    · skip
      obtain ⟨tx, nok, mok, sc, nac, acc, mec⟩ := (i3.k (clH_kC (x := 5))).2.2.2 hJ
      have ok := tx.1
      have hE14 := ok.2.2.1
      have hJ9 := ok.2.1
      obtain ⟨nc, s9, s10, s12, s11, tc, rc, flc, hdc⟩ := sc
      obtain ⟨-, -, m44, m46, -, mm⟩ := (i6.k (clH_kM (x := 5))).rf 0
      obtain ⟨rwm, sm, nam, acm, mem⟩ := mm hJ
      obtain ⟨ncm, p28, p39, p41, p40, tcm, rcm, flm, hdm⟩ := sm
      have tc0 : ∀ i, i < 32 → bt (h.1 25 0) i = (trS (snOf t) (solveS (snOf t)).1).2.2.2 i := fun i hi => by have := tc.1 i hi; rw [clH_1 (by decide)] at this; exact this
      refine ⟨.long (-9223372036854775808), 5, by decide, ?_, ?_⟩
      · refine Con.mk (by decide) ?_
        show RT _ _ 0 [some (.ref 0), some (.int (nI j)), none] [] _ _
        refine r_aload_0 dX7_head_0 ?_
        refine r_iload_1 dX7_head_1 ?_
        refine r_cV1 mX7_whyNoWaterAt dX7_head_2 ml_X7_198 mo_X7_whyNoWaterAt rfl (k_why2 hb.1 i3.1 tc0 hx (by omega)) (by decide) ?_
        rw [if_neg hm]
        refine r_istore_2 dX7_head_5 ?_
        refine r_iload_2 dX7_head_6 ?_
        refine r_if_eq 16 dX7_head_7 (by decide) (fun c_7 => by exact absurd c_7 (by decide)) (fun c_7 => ?_)
        refine r_aload_0 dX7_head_10 ?_
        refine r_iload_2 dX7_head_11 ?_
        refine r_cV1 mX7_refuseLong dX7_head_12 ml_X7_171 mo_X7_refuseLong rfl (k_refuseL h 5) (by decide) ?_
        refine r_lret dX7_head_15 rfl ?_
        exact ⟨rfl, rfl⟩
      · refine Con.mk (by decide) ?_
        show RT _ _ 0 [some (.ref 74), some (.int (nI j))] [] _ _
        refine r_aload_0 dX8_head_0 ?_
        refine r_aload_0 dX8_head_1 ?_
        refine r_iload_1 dX8_head_2 ?_
        refine r_cV1 mX8_isJoint dX8_head_3 ml_X8_327 mo_X8_isJoint rfl (q_isJoint _ hb.1 (f6 5) _) (by decide) ?_
        refine r_cS1 mX8_unless dX8_head_6 ml_X8_330 mo_X8_unless (q_unless _ _) (by decide) ?_
        rw [goods hx]
        refine r_cV1 mX8_isRefused dX8_head_9 ml_X8_245 mo_X8_isRefused rfl (q_isRefused _ _) (by decide) ?_
        rw [b2i_f (by decide)]
        refine r_if_eq 19 dX8_head_12 (by decide) (fun c_12 => ?_) (fun c_12 => by exact absurd rfl c_12)
        refine r_aload_0 dX8_head_19 ?_
        refine r_iload_1 dX8_head_20 ?_
        refine r_cV1 mX8_isMet dX8_head_21 ml_X8_272 mo_X8_isMet rfl (q_isMet _ (j := j) (by omega)) (by decide) ?_
        rw [tcm.1 j (by omega), show (trS (snOf t) (solveS (snOf t)).1).2.2.2 j = false by simpa using hm]
        refine r_if_eq 36 dX8_head_24 (by decide) (fun c_24 => ?_) (fun c_24 => by exact absurd rfl c_24)
        refine r_aload_0 dX8_head_36 ?_
        refine r_iconst (v := 5) dX8_head_37 (by decide) ?_
        refine r_cV1 mX8_nothing dX8_head_38 ml_X8_407 mo_X8_nothing rfl (q_nothing _ _) (by decide) ?_
        refine r_lret dX8_head_41 rfl ?_
        exact ⟨rfl, rfH_pI⟩
  · refine ⟨.long (-9223372036854775808), 1, by decide, ?_, ?_⟩
    · refine Con.mk (by decide) ?_
      show RT _ _ 0 [some (.ref 0), some (.int x), none] [] _ _
      refine r_aload_0 dX7_head_0 ?_
      refine r_iload_1 dX7_head_1 ?_
      refine r_cV1 mX7_whyNoWaterAt dX7_head_2 ml_X7_198 mo_X7_whyNoWaterAt rfl (k_why hb.1 i3.1 hx) (by decide) ?_
      refine r_istore_2 dX7_head_5 ?_
      refine r_iload_2 dX7_head_6 ?_
      refine r_if_eq 16 dX7_head_7 (by decide) (fun c_7 => by exact absurd c_7 (by decide)) (fun c_7 => ?_)
      refine r_aload_0 dX7_head_10 ?_
      refine r_iload_2 dX7_head_11 ?_
      refine r_cV1 mX7_refuseLong dX7_head_12 ml_X7_171 mo_X7_refuseLong rfl (k_refuseL h 1) (by decide) ?_
      refine r_lret dX7_head_15 rfl ?_
      exact ⟨rfl, rfl⟩
    · refine Con.mk (by decide) ?_
      show RT _ _ 0 [some (.ref 74), some (.int x)] [] _ _
      refine r_aload_0 dX8_head_0 ?_
      refine r_aload_0 dX8_head_1 ?_
      refine r_iload_1 dX8_head_2 ?_
      refine r_cV1 mX8_isJoint dX8_head_3 ml_X8_327 mo_X8_isJoint rfl (q_isJoint _ hb.1 (f6 1) _) (by decide) ?_
      refine r_cS1 mX8_unless dX8_head_6 ml_X8_330 mo_X8_unless (q_unless _ _) (by decide) ?_
      rw [bads hx]
      refine r_cV1 mX8_isRefused dX8_head_9 ml_X8_245 mo_X8_isRefused rfl (q_isRefused _ _) (by decide) ?_
      rw [b2i_t (by decide)]
      refine r_if_eq 19 dX8_head_12 (by decide) (fun c_12 => by exact absurd c_12 (by decide)) (fun c_12 => ?_)
      refine r_ldc2 dX8_head_15 ks_X8_102 ?_
      refine r_lret dX8_head_18 rfl ?_
      exact ⟨rfl, rfl⟩

set_option maxRecDepth 100000 in
set_option maxHeartbeats 4000000 in
theorem o_pressure {h : PH} (i : INV h) (x : Int32) : Same mX7_pressure 3 [.ref 0, .int x] mX8_pressure 3 [.ref 74, .int x] h := by
  obtain ⟨n, bs, tr, fl, wp, t, nm, ac, ms, i1, i2, i3, i4, i5, i6⟩ := i
  have hb := i3.e
  have f6 : ∀ y, (clH h y).1 74 6 = nI (NT.J t) := fun y => by rw [clH_1 (by decide)]; exact i6.1
  by_cases hx : 0 ≤ x ∧ x < nI (NT.J t)
  · obtain ⟨j, hj, rfl⟩ := ex_nat hb.1 hx
    have hJ : 0 < NT.J t := by omega
    by_cases hm : (trS (snOf t) (solveS (snOf t)).1).2.2.2 j = true
    · skip
      obtain ⟨tx, nok, mok, sc, nac, acc, mec⟩ := (i3.k (clH_kC (x := 0))).2.2.2 hJ
      have ok := tx.1
      have hE14 := ok.2.2.1
      have hJ9 := ok.2.1
      obtain ⟨nc, s9, s10, s12, s11, tc, rc, flc, hdc⟩ := sc
      obtain ⟨-, -, m44, m46, -, mm⟩ := (i6.k (clH_kM (x := 0))).rf 0
      obtain ⟨rwm, sm, nam, acm, mem⟩ := mm hJ
      obtain ⟨ncm, p28, p39, p41, p40, tcm, rcm, flm, hdm⟩ := sm
      have tc0 : ∀ i, i < 32 → bt (h.1 25 0) i = (trS (snOf t) (solveS (snOf t)).1).2.2.2 i := fun i hi => by have := tc.1 i hi; rw [clH_1 (by decide)] at this; exact this
      refine ⟨.long (prS t (hdS (snOf t) (solveS (snOf t)).1) j), 0, by decide, ?_, ?_⟩
      · refine Con.mk (by decide) ?_
        show RT _ _ 0 [some (.ref 0), some (.int (nI j)), none] [] _ _
        refine r_aload_0 dX7_pressure_0 ?_
        refine r_iload_1 dX7_pressure_1 ?_
        refine r_cV1 mX7_whyNoWaterAt dX7_pressure_2 ml_X7_198 mo_X7_whyNoWaterAt rfl (k_why2 hb.1 i3.1 tc0 hx (by omega)) (by decide) ?_
        rw [if_pos hm]
        refine r_istore_2 dX7_pressure_5 ?_
        refine r_iload_2 dX7_pressure_6 ?_
        refine r_if_eq 16 dX7_pressure_7 (by decide) (fun c_7 => ?_) (fun c_7 => by exact absurd rfl c_7)
        refine r_aload_0 dX7_pressure_16 ?_
        refine r_cW0 mX7_allow dX7_pressure_17 ml_X7_79 mo_X7_allow rfl (k_allow h) (by decide) ?_
        refine r_aload_0 dX7_pressure_20 ?_
        refine r_getR (a := 14) dX7_pressure_21 fl_X7_29 rfl rfl ?_
        refine r_iload_1 dX7_pressure_24 ?_
        refine r_cV1 mX6_pressureAt dX7_pressure_25 ml_X7_204 mo_X6_pressureAt rfl (k_press isW14 ok nc (hdS (snOf t) (solveS (snOf t)).1) hj (hd_at ok _ hdc j hm)) (by decide) ?_
        refine r_lret dX7_pressure_28 rfl ?_
        exact ⟨rfl, rfl⟩
      · refine Con.mk (by decide) ?_
        show RT _ _ 0 [some (.ref 74), some (.int (nI j))] [] _ _
        refine r_aload_0 dX8_pressure_0 ?_
        refine r_aload_0 dX8_pressure_1 ?_
        refine r_iload_1 dX8_pressure_2 ?_
        refine r_cV1 mX8_isJoint dX8_pressure_3 ml_X8_327 mo_X8_isJoint rfl (q_isJoint _ hb.1 (f6 0) _) (by decide) ?_
        refine r_cS1 mX8_unless dX8_pressure_6 ml_X8_330 mo_X8_unless (q_unless _ _) (by decide) ?_
        rw [goods hx]
        refine r_cV1 mX8_isRefused dX8_pressure_9 ml_X8_245 mo_X8_isRefused rfl (q_isRefused _ _) (by decide) ?_
        rw [b2i_f (by decide)]
        refine r_if_eq 19 dX8_pressure_12 (by decide) (fun c_12 => ?_) (fun c_12 => by exact absurd rfl c_12)
        refine r_aload_0 dX8_pressure_19 ?_
        refine r_iload_1 dX8_pressure_20 ?_
        refine r_cV1 mX8_isMet dX8_pressure_21 ml_X8_272 mo_X8_isMet rfl (q_isMet _ (j := j) (by omega)) (by decide) ?_
        rw [tcm.1 j (by omega), hm]
        refine r_if_eq 35 dX8_pressure_24 (by decide) (fun c_24 => by exact absurd c_24 (by decide)) (fun c_24 => ?_)
        refine r_aload_0 dX8_pressure_27 ?_
        refine r_iload_1 dX8_pressure_28 ?_
        refine r_cV1 mX8_pressureOf dX8_pressure_29 ml_X8_410 mo_X8_pressureOf rfl (q_press ok ncm (hdS (snOf t) (solveS (snOf t)).1) hj (hd_at ok _ hdm j hm)) (by decide) ?_
        refine r_goto 40 dX8_pressure_32 (by decide) ?_
        refine r_lret dX8_pressure_40 rfl ?_
        exact ⟨rfl, rfl⟩
    · skip
      obtain ⟨tx, nok, mok, sc, nac, acc, mec⟩ := (i3.k (clH_kC (x := 5))).2.2.2 hJ
      have ok := tx.1
      have hE14 := ok.2.2.1
      have hJ9 := ok.2.1
      obtain ⟨nc, s9, s10, s12, s11, tc, rc, flc, hdc⟩ := sc
      obtain ⟨-, -, m44, m46, -, mm⟩ := (i6.k (clH_kM (x := 5))).rf 0
      obtain ⟨rwm, sm, nam, acm, mem⟩ := mm hJ
      obtain ⟨ncm, p28, p39, p41, p40, tcm, rcm, flm, hdm⟩ := sm
      have tc0 : ∀ i, i < 32 → bt (h.1 25 0) i = (trS (snOf t) (solveS (snOf t)).1).2.2.2 i := fun i hi => by have := tc.1 i hi; rw [clH_1 (by decide)] at this; exact this
      refine ⟨.long (-9223372036854775808), 5, by decide, ?_, ?_⟩
      · refine Con.mk (by decide) ?_
        show RT _ _ 0 [some (.ref 0), some (.int (nI j)), none] [] _ _
        refine r_aload_0 dX7_pressure_0 ?_
        refine r_iload_1 dX7_pressure_1 ?_
        refine r_cV1 mX7_whyNoWaterAt dX7_pressure_2 ml_X7_198 mo_X7_whyNoWaterAt rfl (k_why2 hb.1 i3.1 tc0 hx (by omega)) (by decide) ?_
        rw [if_neg hm]
        refine r_istore_2 dX7_pressure_5 ?_
        refine r_iload_2 dX7_pressure_6 ?_
        refine r_if_eq 16 dX7_pressure_7 (by decide) (fun c_7 => by exact absurd c_7 (by decide)) (fun c_7 => ?_)
        refine r_aload_0 dX7_pressure_10 ?_
        refine r_iload_2 dX7_pressure_11 ?_
        refine r_cV1 mX7_refuseLong dX7_pressure_12 ml_X7_171 mo_X7_refuseLong rfl (k_refuseL h 5) (by decide) ?_
        refine r_lret dX7_pressure_15 rfl ?_
        exact ⟨rfl, rfl⟩
      · refine Con.mk (by decide) ?_
        show RT _ _ 0 [some (.ref 74), some (.int (nI j))] [] _ _
        refine r_aload_0 dX8_pressure_0 ?_
        refine r_aload_0 dX8_pressure_1 ?_
        refine r_iload_1 dX8_pressure_2 ?_
        refine r_cV1 mX8_isJoint dX8_pressure_3 ml_X8_327 mo_X8_isJoint rfl (q_isJoint _ hb.1 (f6 5) _) (by decide) ?_
        refine r_cS1 mX8_unless dX8_pressure_6 ml_X8_330 mo_X8_unless (q_unless _ _) (by decide) ?_
        rw [goods hx]
        refine r_cV1 mX8_isRefused dX8_pressure_9 ml_X8_245 mo_X8_isRefused rfl (q_isRefused _ _) (by decide) ?_
        rw [b2i_f (by decide)]
        refine r_if_eq 19 dX8_pressure_12 (by decide) (fun c_12 => ?_) (fun c_12 => by exact absurd rfl c_12)
        refine r_aload_0 dX8_pressure_19 ?_
        refine r_iload_1 dX8_pressure_20 ?_
        refine r_cV1 mX8_isMet dX8_pressure_21 ml_X8_272 mo_X8_isMet rfl (q_isMet _ (j := j) (by omega)) (by decide) ?_
        rw [tcm.1 j (by omega), show (trS (snOf t) (solveS (snOf t)).1).2.2.2 j = false by simpa using hm]
        refine r_if_eq 35 dX8_pressure_24 (by decide) (fun c_24 => ?_) (fun c_24 => by exact absurd rfl c_24)
        refine r_aload_0 dX8_pressure_35 ?_
        refine r_iconst (v := 5) dX8_pressure_36 (by decide) ?_
        refine r_cV1 mX8_nothing dX8_pressure_37 ml_X8_407 mo_X8_nothing rfl (q_nothing _ _) (by decide) ?_
        refine r_lret dX8_pressure_40 rfl ?_
        exact ⟨rfl, rfH_pI⟩
  · refine ⟨.long (-9223372036854775808), 1, by decide, ?_, ?_⟩
    · refine Con.mk (by decide) ?_
      show RT _ _ 0 [some (.ref 0), some (.int x), none] [] _ _
      refine r_aload_0 dX7_pressure_0 ?_
      refine r_iload_1 dX7_pressure_1 ?_
      refine r_cV1 mX7_whyNoWaterAt dX7_pressure_2 ml_X7_198 mo_X7_whyNoWaterAt rfl (k_why hb.1 i3.1 hx) (by decide) ?_
      refine r_istore_2 dX7_pressure_5 ?_
      refine r_iload_2 dX7_pressure_6 ?_
      refine r_if_eq 16 dX7_pressure_7 (by decide) (fun c_7 => by exact absurd c_7 (by decide)) (fun c_7 => ?_)
      refine r_aload_0 dX7_pressure_10 ?_
      refine r_iload_2 dX7_pressure_11 ?_
      refine r_cV1 mX7_refuseLong dX7_pressure_12 ml_X7_171 mo_X7_refuseLong rfl (k_refuseL h 1) (by decide) ?_
      refine r_lret dX7_pressure_15 rfl ?_
      exact ⟨rfl, rfl⟩
    · refine Con.mk (by decide) ?_
      show RT _ _ 0 [some (.ref 74), some (.int x)] [] _ _
      refine r_aload_0 dX8_pressure_0 ?_
      refine r_aload_0 dX8_pressure_1 ?_
      refine r_iload_1 dX8_pressure_2 ?_
      refine r_cV1 mX8_isJoint dX8_pressure_3 ml_X8_327 mo_X8_isJoint rfl (q_isJoint _ hb.1 (f6 1) _) (by decide) ?_
      refine r_cS1 mX8_unless dX8_pressure_6 ml_X8_330 mo_X8_unless (q_unless _ _) (by decide) ?_
      rw [bads hx]
      refine r_cV1 mX8_isRefused dX8_pressure_9 ml_X8_245 mo_X8_isRefused rfl (q_isRefused _ _) (by decide) ?_
      rw [b2i_t (by decide)]
      refine r_if_eq 19 dX8_pressure_12 (by decide) (fun c_12 => by exact absurd c_12 (by decide)) (fun c_12 => ?_)
      refine r_ldc2 dX8_pressure_15 ks_X8_102 ?_
      refine r_lret dX8_pressure_18 rfl ?_
      exact ⟨rfl, rfl⟩

set_option maxRecDepth 100000 in
set_option maxHeartbeats 4000000 in
theorem mwork {t : NT} (ok : okT t) (sh : Int32) {h : PH} (nc : NetM h t) (hs : h.1 74 28 = sh) (hf : ∀ e, e < 14 → h.2 87 e = (flS (snOf t) sh 60).1 e) : ∀ (m e : Nat) (acc : Int64), e + m = NT.E t → RT mX8_work 2 30 [some (.ref 74), some (.long acc), none, some (.int (nI e))] [] h (fun a b => a = some (.long (accL (fun e => if NT.kd t e = 2 then (flS (snOf t) sh 60).1 e * liftS (nI (NT.lc t e)) (NT.lf t e) ((flS (snOf t) sh 60).1 e) else 0) m e acc)) ∧ b = h) := by
  have hE14 := ok.2.2.1
  intro m
  induction m with
  | zero =>
    intro e acc he
    refine r_iload_3 dX8_work_30 ?_
    refine r_aload_0 dX8_work_31 ?_
    refine r_getI dX8_work_32 fl_X8_232 rfl ?_
    rw [nc.2.1]
    refine r_icmpN_ge 87 dX8_work_35 (by decide) (by omega) (by omega) (fun c_35 => ?_) (fun c_35 => by omega)
    refine r_lload_1 dX8_work_87 ?_
    refine r_lret dX8_work_88 rfl ?_
    exact ⟨rfl, rfl⟩
  | succ m ih =>
    intro e acc he
    have hee : e < NT.E t := by omega
    obtain ⟨n1, n2, n3, n4, n5, n6⟩ := nc.2.2.2.2.2.2 e hee
    have ih' := ih (e + 1) (acc + (fun e => if NT.kd t e = 2 then (flS (snOf t) sh 60).1 e * liftS (nI (NT.lc t e)) (NT.lf t e) ((flS (snOf t) sh 60).1 e) else 0) e) (by omega)
    show RT _ _ _ _ _ _ (fun a b => a = some (.long (accL (fun e => if NT.kd t e = 2 then (flS (snOf t) sh 60).1 e * liftS (nI (NT.lc t e)) (NT.lf t e) ((flS (snOf t) sh 60).1 e) else 0) m (e + 1) (acc + (fun e => if NT.kd t e = 2 then (flS (snOf t) sh 60).1 e * liftS (nI (NT.lc t e)) (NT.lf t e) ((flS (snOf t) sh 60).1 e) else 0) e))) ∧ b = h)
    have lv := (ok.ok.fl sh (Nat.le_refl 60)).2.1 e
    simp only [gl] at lv
    by_cases hp : NT.kd t e = 2
    · cases ho : opS (snOf t) sh e
      · refine r_iload_3 dX8_work_30 ?_
        refine r_aload_0 dX8_work_31 ?_
        refine r_getI dX8_work_32 fl_X8_232 rfl ?_
        rw [nc.2.1]
        refine r_icmpN_ge 87 dX8_work_35 (by decide) (by omega) (by omega) (fun c_35 => by omega) (fun c_35 => ?_)
        refine r_lload_1 dX8_work_38 ?_
        refine r_aload_0 dX8_work_39 ?_
        refine r_getR (a := 81) dX8_work_40 fl_X8_34 rfl rfl ?_
        refine r_iload_3 dX8_work_43 ?_
        refine r_ialdN dX8_work_44 rfl (by omega) ?_
        rw [n3]
        refine r_iconst (v := 2) dX8_work_45 (by decide) ?_
        refine r_icmp_ne 78 dX8_work_46 (by decide) (fun c_46 => by exact absurd hp c_46) (fun c_46 => ?_)
        refine r_aload_0 dX8_work_49 ?_
        refine r_iload_3 dX8_work_50 ?_
        refine r_cV1 mX8_isOpen dX8_work_51 ml_X8_269 mo_X8_isOpen rfl (q_isOpen nc (show e < 32 by omega)) (by decide) ?_
        rw [hs, ho]
        refine r_if_eq 78 dX8_work_54 (by decide) (fun c_54 => ?_) (fun c_54 => by exact absurd rfl c_54)
        refine r_lconst (v := 0) dX8_work_78 (by decide) ?_
        refine r_ladd dX8_work_79 ?_
        refine r_lstore_1 dX8_work_80 ?_
        refine r_iincN_3 dX8_work_81 ?_
        refine r_goto 30 dX8_work_84 (by decide) ?_
        have f0 : (flS (snOf t) sh 60).1 e = 0 := lv (by rw [ho]; simp)
        simp only [if_pos hp, f0, Int64.zero_mul] at ih' ⊢
        exact ih'
      · refine r_iload_3 dX8_work_30 ?_
        refine r_aload_0 dX8_work_31 ?_
        refine r_getI dX8_work_32 fl_X8_232 rfl ?_
        rw [nc.2.1]
        refine r_icmpN_ge 87 dX8_work_35 (by decide) (by omega) (by omega) (fun c_35 => by omega) (fun c_35 => ?_)
        refine r_lload_1 dX8_work_38 ?_
        refine r_aload_0 dX8_work_39 ?_
        refine r_getR (a := 81) dX8_work_40 fl_X8_34 rfl rfl ?_
        refine r_iload_3 dX8_work_43 ?_
        refine r_ialdN dX8_work_44 rfl (by omega) ?_
        rw [n3]
        refine r_iconst (v := 2) dX8_work_45 (by decide) ?_
        refine r_icmp_ne 78 dX8_work_46 (by decide) (fun c_46 => by exact absurd hp c_46) (fun c_46 => ?_)
        refine r_aload_0 dX8_work_49 ?_
        refine r_iload_3 dX8_work_50 ?_
        refine r_cV1 mX8_isOpen dX8_work_51 ml_X8_269 mo_X8_isOpen rfl (q_isOpen nc (show e < 32 by omega)) (by decide) ?_
        rw [hs, ho]
        refine r_if_eq 78 dX8_work_54 (by decide) (fun c_54 => by exact absurd c_54 (by decide)) (fun c_54 => ?_)
        refine r_aload_0 dX8_work_57 ?_
        refine r_getR (a := 87) dX8_work_58 fl_X8_52 rfl rfl ?_
        refine r_iload_3 dX8_work_61 ?_
        refine r_laldN dX8_work_62 rfl (by omega) ?_
        rw [hf e (by omega)]
        refine r_aload_0 dX8_work_63 ?_
        refine r_iload_3 dX8_work_64 ?_
        refine r_aload_0 dX8_work_65 ?_
        refine r_getR (a := 87) dX8_work_66 fl_X8_52 rfl rfl ?_
        refine r_iload_3 dX8_work_69 ?_
        refine r_laldN dX8_work_70 rfl (by omega) ?_
        rw [hf e (by omega)]
        refine r_cV2 mX8_liftOf dX8_work_71 ml_X8_308 mo_X8_liftOf rfl (q_liftOf ok nc hee _) (by decide) ?_
        refine r_lmul dX8_work_74 ?_
        refine r_goto 79 dX8_work_75 (by decide) ?_
        refine r_ladd dX8_work_79 ?_
        refine r_lstore_1 dX8_work_80 ?_
        refine r_iincN_3 dX8_work_81 ?_
        refine r_goto 30 dX8_work_84 (by decide) ?_
        simp only [if_pos hp] at ih' ⊢
        exact ih'
    · refine r_iload_3 dX8_work_30 ?_
      refine r_aload_0 dX8_work_31 ?_
      refine r_getI dX8_work_32 fl_X8_232 rfl ?_
      rw [nc.2.1]
      refine r_icmpN_ge 87 dX8_work_35 (by decide) (by omega) (by omega) (fun c_35 => by omega) (fun c_35 => ?_)
      refine r_lload_1 dX8_work_38 ?_
      refine r_aload_0 dX8_work_39 ?_
      refine r_getR (a := 81) dX8_work_40 fl_X8_34 rfl rfl ?_
      refine r_iload_3 dX8_work_43 ?_
      refine r_ialdN dX8_work_44 rfl (by omega) ?_
      rw [n3]
      refine r_iconst (v := 2) dX8_work_45 (by decide) ?_
      refine r_icmp_ne 78 dX8_work_46 (by decide) (fun c_46 => ?_) (fun c_46 => by exact absurd c_46 hp)
      refine r_lconst (v := 0) dX8_work_78 (by decide) ?_
      refine r_ladd dX8_work_79 ?_
      refine r_lstore_1 dX8_work_80 ?_
      refine r_iincN_3 dX8_work_81 ?_
      refine r_goto 30 dX8_work_84 (by decide) ?_
      simp only [if_neg hp] at ih' ⊢
      exact ih'
set_option maxRecDepth 100000 in
set_option maxHeartbeats 4000000 in
theorem o_work {h : PH} (i : INV h)  : Same mX7_work 3 [.ref 0] mX8_work 2 [.ref 74] h := by
  obtain ⟨n, bs, tr, fl, wp, t, nm, ac, ms, i1, i2, i3, i4, i5, i6⟩ := i
  have hb := i3.e
  have f6 : ∀ y, (clH h y).1 74 6 = nI (NT.J t) := fun y => by rw [clH_1 (by decide)]; exact i6.1
  by_cases hJ : 0 < NT.J t
  · skip
    obtain ⟨tx, nok, mok, sc, nac, acc, mec⟩ := (i3.k (clH_kC (x := 0))).2.2.2 hJ
    have ok := tx.1
    have hE14 := ok.2.2.1
    have hJ9 := ok.2.1
    obtain ⟨nc, s9, s10, s12, s11, tc, rc, flc, hdc⟩ := sc
    obtain ⟨-, -, m44, m46, -, mm⟩ := (i6.k (clH_kM (x := 0))).rf 0
    obtain ⟨rwm, sm, nam, acm, mem⟩ := mm hJ
    obtain ⟨ncm, p28, p39, p41, p40, tcm, rcm, flm, hdm⟩ := sm
    refine ⟨.long (pwS t (flS (snOf t) (solveS (snOf t)).1 60).1), 0, by decide, ?_, ?_⟩
    · refine Con.mk (by decide) ?_
      show RT _ _ 0 [some (.ref 0)] [] _ _
      refine r_aload_0 dX7_work_0 ?_
      refine r_cV0 mX7_hasText dX7_work_1 ml_X7_101 mo_X7_hasText rfl (k_hasText hb.1 i3.1) (by decide) ?_
      rw [b2i_t hJ]
      refine r_if_ne 13 dX7_work_4 (by decide) (fun c_4 => ?_) (fun c_4 => by exact absurd c_4 (by decide))
      refine r_aload_0 dX7_work_13 ?_
      refine r_cW0 mX7_allow dX7_work_14 ml_X7_79 mo_X7_allow rfl (k_allow h) (by decide) ?_
      refine r_aload_0 dX7_work_17 ?_
      refine r_getR (a := 14) dX7_work_18 fl_X7_29 rfl rfl ?_
      refine r_cV0 mX6_pumpWork dX7_work_21 ml_X7_225 mo_X6_pumpWork rfl (k_pump isW14 ok nc _ (fun e he => flc e he)) (by decide) ?_
      refine r_lret dX7_work_24 rfl ?_
      exact ⟨rfl, rfl⟩
    · refine Con.mk (by decide) ?_
      show RT _ _ 0 [some (.ref 74), none, none, none] [] _ _
      refine r_aload_0 dX8_work_0 ?_
      refine r_aload_0 dX8_work_1 ?_
      refine r_getI dX8_work_2 fl_X8_229 rfl ?_
      rw [f6 0]
      refine r_if_le 12 dX8_work_5 (by decide) (fun c_5 => by exact absurd c_5 (nI_nle hJ (by omega))) (fun c_5 => ?_)
      refine r_iconst (v := 1) dX8_work_8 (by decide) ?_
      refine r_goto 13 dX8_work_9 (by decide) ?_
      refine r_cS1 mX8_unless dX8_work_13 ml_X8_330 mo_X8_unless (q_unless _ _) (by decide) ?_
      rw [un1]
      refine r_cV1 mX8_isRefused dX8_work_16 ml_X8_245 mo_X8_isRefused rfl (q_isRefused _ _) (by decide) ?_
      rw [b2i_f (by decide)]
      refine r_if_eq 26 dX8_work_19 (by decide) (fun c_19 => ?_) (fun c_19 => by exact absurd rfl c_19)
      refine r_lconst (v := 0) dX8_work_26 (by decide) ?_
      refine r_lstore_1 dX8_work_27 ?_
      refine r_iconst (v := nI 0) dX8_work_28 (by decide) ?_
      refine r_istore_3 dX8_work_29 ?_
      exact mwork ok _ ncm p28 (fun e he => flm e he) (NT.E t) 0 0 (by omega)
  · have hJ0 : NT.J t = 0 := by omega
    refine ⟨.long (-9223372036854775808), 1, by decide, ?_, ?_⟩
    · refine Con.mk (by decide) ?_
      show RT _ _ 0 [some (.ref 0)] [] _ _
      refine r_aload_0 dX7_work_0 ?_
      refine r_cV0 mX7_hasText dX7_work_1 ml_X7_101 mo_X7_hasText rfl (k_hasText hb.1 i3.1) (by decide) ?_
      rw [b2i_f hJ]
      refine r_if_ne 13 dX7_work_4 (by decide) (fun c_4 => by exact absurd rfl c_4) (fun c_4 => ?_)
      refine r_aload_0 dX7_work_7 ?_
      refine r_iconst (v := 1) dX7_work_8 (by decide) ?_
      refine r_cV1 mX7_refuseLong dX7_work_9 ml_X7_171 mo_X7_refuseLong rfl (k_refuseL h 1) (by decide) ?_
      refine r_lret dX7_work_12 rfl ?_
      exact ⟨rfl, rfl⟩
    · refine Con.mk (by decide) ?_
      show RT _ _ 0 [some (.ref 74), none, none, none] [] _ _
      refine r_aload_0 dX8_work_0 ?_
      refine r_aload_0 dX8_work_1 ?_
      refine r_getI dX8_work_2 fl_X8_229 rfl ?_
      rw [f6 1, hJ0]
      refine r_if_le 12 dX8_work_5 (by decide) (fun c_5 => ?_) (fun c_5 => by exact absurd (show nI 0 ≤ 0 by decide) c_5)
      refine r_iconst (v := 0) dX8_work_12 (by decide) ?_
      refine r_cS1 mX8_unless dX8_work_13 ml_X8_330 mo_X8_unless (q_unless _ _) (by decide) ?_
      rw [un0]
      refine r_cV1 mX8_isRefused dX8_work_16 ml_X8_245 mo_X8_isRefused rfl (q_isRefused _ _) (by decide) ?_
      rw [b2i_t (by decide)]
      refine r_if_eq 26 dX8_work_19 (by decide) (fun c_19 => by exact absurd c_19 (by decide)) (fun c_19 => ?_)
      refine r_ldc2 dX8_work_22 ks_X8_102 ?_
      refine r_lret dX8_work_25 rfl ?_
      exact ⟨rfl, rfl⟩

set_option maxRecDepth 100000 in
set_option maxHeartbeats 4000000 in
theorem mleft {t : NT} (ok : okT t) {h : PH} (nc : NetM h t) (f : FL) (hf : ∀ e, e < 14 → h.2 87 e = f e) {j : Nat} (hj : j < 9) : ∀ (m e : Nat) (acc : Int64), e + m = NT.E t → RT mX8_balance 3 43 [some (.ref 74), some (.int (nI j)), some (.long acc), none, some (.int (nI e))] [] h (fun a b => a = some (.long (loS t f j m e acc)) ∧ b = h) := by
  have hE14 := ok.2.2.1
  intro m
  induction m with
  | zero =>
    intro e acc he
    refine r_iload_4 dX8_balance_43 ?_
    refine r_aload_0 dX8_balance_45 ?_
    refine r_getI dX8_balance_46 fl_X8_232 rfl ?_
    rw [nc.2.1]
    refine r_icmpN_ge 108 dX8_balance_49 (by decide) (by omega) (by omega) (fun c_49 => ?_) (fun c_49 => by omega)
    refine r_lload_2 dX8_balance_108 ?_
    refine r_lret dX8_balance_109 rfl ?_
    exact ⟨rfl, rfl⟩
  | succ m ih =>
    intro e acc he
    have hee : e < NT.E t := by omega
    obtain ⟨n1, n2, n3, n4, n5, n6⟩ := nc.2.2.2.2.2.2 e hee
    obtain ⟨ee1, ee2, ee3⟩ := ok.ends e hee
    simp only [loS]
    refine r_iload_4 dX8_balance_43 ?_
    refine r_aload_0 dX8_balance_45 ?_
    refine r_getI dX8_balance_46 fl_X8_232 rfl ?_
    rw [nc.2.1]
    refine r_icmpN_ge 108 dX8_balance_49 (by decide) (by omega) (by omega) (fun c_49 => by omega) (fun c_49 => ?_)
    refine r_lload_2 dX8_balance_52 ?_
    refine r_aload_0 dX8_balance_53 ?_
    refine r_getR (a := 80) dX8_balance_54 fl_X8_31 rfl rfl ?_
    refine r_iload_4 dX8_balance_57 ?_
    refine r_ialdN dX8_balance_59 rfl (by omega) ?_
    rw [n2]
    refine r_iload_1 dX8_balance_60 ?_
    refine r_icmpN_ne 74 dX8_balance_61 (by decide) (by omega) (by omega) (fun c_61 => ?_) (fun c_61 => ?_)
    · refine r_lconst (v := 0) dX8_balance_74 (by decide) ?_
      refine r_ladd dX8_balance_75 ?_
      refine r_lstore_2 dX8_balance_76 ?_
      refine r_lload_2 dX8_balance_77 ?_
      refine r_aload_0 dX8_balance_78 ?_
      refine r_getR (a := 79) dX8_balance_79 fl_X8_28 rfl rfl ?_
      refine r_iload_4 dX8_balance_82 ?_
      refine r_ialdN dX8_balance_84 rfl (by omega) ?_
      rw [n1]
      refine r_iload_1 dX8_balance_85 ?_
      refine r_icmpN_ne 99 dX8_balance_86 (by decide) (by omega) (by omega) (fun c_86 => ?_) (fun c_86 => ?_)
      · refine r_lconst (v := 0) dX8_balance_99 (by decide) ?_
        refine r_lsub dX8_balance_100 ?_
        refine r_lstore_2 dX8_balance_101 ?_
        refine r_iincN_4 dX8_balance_102 ?_
        refine r_goto 43 dX8_balance_105 (by decide) ?_
        first | (exact absurd (c_86.trans c_61.symm) ee3) | (rw [if_pos c_61, Int64.sub_zero]; exact ih (e + 1) _ (by omega)) | (rw [if_neg c_61, if_pos c_86, Int64.add_zero]; exact ih (e + 1) _ (by omega)) | (rw [if_neg c_61, if_neg c_86, Int64.add_zero, Int64.sub_zero]; exact ih (e + 1) _ (by omega))
      · refine r_aload_0 dX8_balance_89 ?_
        refine r_getR (a := 87) dX8_balance_90 fl_X8_52 rfl rfl ?_
        refine r_iload_4 dX8_balance_93 ?_
        refine r_laldN dX8_balance_95 rfl (by omega) ?_
        rw [hf e (by omega)]
        refine r_goto 100 dX8_balance_96 (by decide) ?_
        refine r_lsub dX8_balance_100 ?_
        refine r_lstore_2 dX8_balance_101 ?_
        refine r_iincN_4 dX8_balance_102 ?_
        refine r_goto 43 dX8_balance_105 (by decide) ?_
        first | (exact absurd (c_86.trans c_61.symm) ee3) | (rw [if_pos c_61, Int64.sub_zero]; exact ih (e + 1) _ (by omega)) | (rw [if_neg c_61, if_pos c_86, Int64.add_zero]; exact ih (e + 1) _ (by omega)) | (rw [if_neg c_61, if_neg c_86, Int64.add_zero, Int64.sub_zero]; exact ih (e + 1) _ (by omega))
    · refine r_aload_0 dX8_balance_64 ?_
      refine r_getR (a := 87) dX8_balance_65 fl_X8_52 rfl rfl ?_
      refine r_iload_4 dX8_balance_68 ?_
      refine r_laldN dX8_balance_70 rfl (by omega) ?_
      rw [hf e (by omega)]
      refine r_goto 75 dX8_balance_71 (by decide) ?_
      refine r_ladd dX8_balance_75 ?_
      refine r_lstore_2 dX8_balance_76 ?_
      refine r_lload_2 dX8_balance_77 ?_
      refine r_aload_0 dX8_balance_78 ?_
      refine r_getR (a := 79) dX8_balance_79 fl_X8_28 rfl rfl ?_
      refine r_iload_4 dX8_balance_82 ?_
      refine r_ialdN dX8_balance_84 rfl (by omega) ?_
      rw [n1]
      refine r_iload_1 dX8_balance_85 ?_
      refine r_icmpN_ne 99 dX8_balance_86 (by decide) (by omega) (by omega) (fun c_86 => ?_) (fun c_86 => ?_)
      · refine r_lconst (v := 0) dX8_balance_99 (by decide) ?_
        refine r_lsub dX8_balance_100 ?_
        refine r_lstore_2 dX8_balance_101 ?_
        refine r_iincN_4 dX8_balance_102 ?_
        refine r_goto 43 dX8_balance_105 (by decide) ?_
        first | (exact absurd (c_86.trans c_61.symm) ee3) | (rw [if_pos c_61, Int64.sub_zero]; exact ih (e + 1) _ (by omega)) | (rw [if_neg c_61, if_pos c_86, Int64.add_zero]; exact ih (e + 1) _ (by omega)) | (rw [if_neg c_61, if_neg c_86, Int64.add_zero, Int64.sub_zero]; exact ih (e + 1) _ (by omega))
      · refine r_aload_0 dX8_balance_89 ?_
        refine r_getR (a := 87) dX8_balance_90 fl_X8_52 rfl rfl ?_
        refine r_iload_4 dX8_balance_93 ?_
        refine r_laldN dX8_balance_95 rfl (by omega) ?_
        rw [hf e (by omega)]
        refine r_goto 100 dX8_balance_96 (by decide) ?_
        refine r_lsub dX8_balance_100 ?_
        refine r_lstore_2 dX8_balance_101 ?_
        refine r_iincN_4 dX8_balance_102 ?_
        refine r_goto 43 dX8_balance_105 (by decide) ?_
        first | (exact absurd (c_86.trans c_61.symm) ee3) | (rw [if_pos c_61, Int64.sub_zero]; exact ih (e + 1) _ (by omega)) | (rw [if_neg c_61, if_pos c_86, Int64.add_zero]; exact ih (e + 1) _ (by omega)) | (rw [if_neg c_61, if_neg c_86, Int64.add_zero, Int64.sub_zero]; exact ih (e + 1) _ (by omega))
set_option maxRecDepth 100000 in
set_option maxHeartbeats 4000000 in
theorem o_balance {h : PH} (i : INV h) (x : Int32) : Same mX7_balance 3 [.ref 0, .int x] mX8_balance 3 [.ref 74, .int x] h := by
  obtain ⟨n, bs, tr, fl, wp, t, nm, ac, ms, i1, i2, i3, i4, i5, i6⟩ := i
  have hb := i3.e
  have f6 : ∀ y, (clH h y).1 74 6 = nI (NT.J t) := fun y => by rw [clH_1 (by decide)]; exact i6.1
  by_cases hx : x ≠ 0 ∧ 0 ≤ x ∧ x < nI (NT.J t)
  · obtain ⟨j, hj, rfl⟩ := ex_nat hb.1 hx.2
    have hJ : 0 < NT.J t := by omega
    have hj0 : j ≠ 0 := fun q => hx.1 (by rw [q]; rfl)
    obtain ⟨tx, nok, mok, sc, nac, acc, mec⟩ := (i3.k (clH_kC (x := 0))).2.2.2 hJ
    have ok := tx.1
    have hE14 := ok.2.2.1
    have hJ9 := ok.2.1
    obtain ⟨nc, s9, s10, s12, s11, tc, rc, flc, hdc⟩ := sc
    obtain ⟨-, -, m44, m46, -, mm⟩ := (i6.k (clH_kM (x := 0))).rf 0
    obtain ⟨rwm, sm, nam, acm, mem⟩ := mm hJ
    obtain ⟨ncm, p28, p39, p41, p40, tcm, rcm, flm, hdm⟩ := sm
    refine ⟨.long (loS t (flS (snOf t) (solveS (snOf t)).1 60).1 j (NT.E t) 0 (if (trS (snOf t) (solveS (snOf t)).1).2.2.2 j = true then (-(NT.dr t j)).toInt64 else 0)), 0, by decide, ?_, ?_⟩
    · refine Con.mk (by decide) ?_
      show RT _ _ 0 [some (.ref 0), some (.int (nI j))] [] _ _
      refine r_aload_0 dX7_balance_0 ?_
      refine r_iload_1 dX7_balance_1 ?_
      refine r_cV1 mX7_isDrawingJoint dX7_balance_2 ml_X7_232 mo_X7_isDrawingJoint rfl (k_isDrawing hb.1 i3.1 _) (by decide) ?_
      rw [b2i_t hx]
      refine r_if_ne 14 dX7_balance_5 (by decide) (fun c_5 => ?_) (fun c_5 => by exact absurd c_5 (by decide))
      refine r_aload_0 dX7_balance_14 ?_
      refine r_cW0 mX7_allow dX7_balance_15 ml_X7_79 mo_X7_allow rfl (k_allow h) (by decide) ?_
      refine r_aload_0 dX7_balance_18 ?_
      refine r_getR (a := 14) dX7_balance_19 fl_X7_29 rfl rfl ?_
      refine r_iload_1 dX7_balance_22 ?_
      refine r_cV1 mX6_leftOverAt dX7_balance_23 ml_X7_235 mo_X6_leftOverAt rfl (k_left isW14 ok _ nc tc _ (fun e he => flc e he) hj) (by decide) ?_
      refine r_lret dX7_balance_26 rfl ?_
      exact ⟨rfl, rfl⟩
    · by_cases hm : (trS (snOf t) (solveS (snOf t)).1).2.2.2 j = true
      · refine Con.mk (by decide) ?_
        show RT _ _ 0 [some (.ref 74), some (.int (nI j)), none, none, none] [] _ _
        refine r_aload_0 dX8_balance_0 ?_
        refine r_aload_0 dX8_balance_1 ?_
        refine r_iload_1 dX8_balance_2 ?_
        refine r_cV1 mX8_isDrawing dX8_balance_3 ml_X8_421 mo_X8_isDrawing rfl (q_isDrawing _ hb.1 (f6 0) _) (by decide) ?_
        refine r_cS1 mX8_unless dX8_balance_6 ml_X8_330 mo_X8_unless (q_unless _ _) (by decide) ?_
        rw [goods hx]
        refine r_cV1 mX8_isRefused dX8_balance_9 ml_X8_245 mo_X8_isRefused rfl (q_isRefused _ _) (by decide) ?_
        rw [b2i_f (by decide)]
        refine r_if_eq 19 dX8_balance_12 (by decide) (fun c_12 => ?_) (fun c_12 => by exact absurd rfl c_12)
        refine r_aload_0 dX8_balance_19 ?_
        refine r_iload_1 dX8_balance_20 ?_
        refine r_cV1 mX8_isMet dX8_balance_21 ml_X8_272 mo_X8_isMet rfl (q_isMet _ (j := j) (by omega)) (by decide) ?_
        rw [tcm.1 j (by omega), hm]
        refine r_if_eq 38 dX8_balance_24 (by decide) (fun c_24 => by exact absurd c_24 (by decide)) (fun c_24 => ?_)
        refine r_aload_0 dX8_balance_27 ?_
        refine r_getR (a := 76) dX8_balance_28 fl_X8_19 rfl rfl ?_
        refine r_iload_1 dX8_balance_31 ?_
        refine r_ialdN dX8_balance_32 rfl (by omega) ?_
        rw [(rwm.2.2.2.1 j hj).1, show tdM t j = NT.dr t j from if_neg hj0]
        refine r_ineg dX8_balance_33 ?_
        refine r_i2l dX8_balance_34 ?_
        refine r_goto 39 dX8_balance_35 (by decide) ?_
        refine r_lstore_2 dX8_balance_39 ?_
        refine r_iconst (v := nI 0) dX8_balance_40 (by decide) ?_
        refine r_istore_4 dX8_balance_41 ?_
        rw [if_pos rfl]
        exact mleft ok ncm _ (fun e he => flm e he) (by omega) (NT.E t) 0 _ (by omega)
      · refine Con.mk (by decide) ?_
        show RT _ _ 0 [some (.ref 74), some (.int (nI j)), none, none, none] [] _ _
        refine r_aload_0 dX8_balance_0 ?_
        refine r_aload_0 dX8_balance_1 ?_
        refine r_iload_1 dX8_balance_2 ?_
        refine r_cV1 mX8_isDrawing dX8_balance_3 ml_X8_421 mo_X8_isDrawing rfl (q_isDrawing _ hb.1 (f6 0) _) (by decide) ?_
        refine r_cS1 mX8_unless dX8_balance_6 ml_X8_330 mo_X8_unless (q_unless _ _) (by decide) ?_
        rw [goods hx]
        refine r_cV1 mX8_isRefused dX8_balance_9 ml_X8_245 mo_X8_isRefused rfl (q_isRefused _ _) (by decide) ?_
        rw [b2i_f (by decide)]
        refine r_if_eq 19 dX8_balance_12 (by decide) (fun c_12 => ?_) (fun c_12 => by exact absurd rfl c_12)
        refine r_aload_0 dX8_balance_19 ?_
        refine r_iload_1 dX8_balance_20 ?_
        refine r_cV1 mX8_isMet dX8_balance_21 ml_X8_272 mo_X8_isMet rfl (q_isMet _ (j := j) (by omega)) (by decide) ?_
        rw [tcm.1 j (by omega), show (trS (snOf t) (solveS (snOf t)).1).2.2.2 j = false by simpa using hm]
        refine r_if_eq 38 dX8_balance_24 (by decide) (fun c_24 => ?_) (fun c_24 => by exact absurd rfl c_24)
        refine r_lconst (v := 0) dX8_balance_38 (by decide) ?_
        refine r_lstore_2 dX8_balance_39 ?_
        refine r_iconst (v := nI 0) dX8_balance_40 (by decide) ?_
        refine r_istore_4 dX8_balance_41 ?_
        rw [if_neg (by decide)]
        exact mleft ok ncm _ (fun e he => flm e he) (by omega) (NT.E t) 0 _ (by omega)
  · refine ⟨.long (-9223372036854775808), 1, by decide, ?_, ?_⟩
    · refine Con.mk (by decide) ?_
      show RT _ _ 0 [some (.ref 0), some (.int x)] [] _ _
      refine r_aload_0 dX7_balance_0 ?_
      refine r_iload_1 dX7_balance_1 ?_
      refine r_cV1 mX7_isDrawingJoint dX7_balance_2 ml_X7_232 mo_X7_isDrawingJoint rfl (k_isDrawing hb.1 i3.1 _) (by decide) ?_
      rw [b2i_f hx]
      refine r_if_ne 14 dX7_balance_5 (by decide) (fun c_5 => by exact absurd rfl c_5) (fun c_5 => ?_)
      refine r_aload_0 dX7_balance_8 ?_
      refine r_iconst (v := 1) dX7_balance_9 (by decide) ?_
      refine r_cV1 mX7_refuseLong dX7_balance_10 ml_X7_171 mo_X7_refuseLong rfl (k_refuseL h 1) (by decide) ?_
      refine r_lret dX7_balance_13 rfl ?_
      exact ⟨rfl, rfl⟩
    · refine Con.mk (by decide) ?_
      show RT _ _ 0 [some (.ref 74), some (.int x), none, none, none] [] _ _
      refine r_aload_0 dX8_balance_0 ?_
      refine r_aload_0 dX8_balance_1 ?_
      refine r_iload_1 dX8_balance_2 ?_
      refine r_cV1 mX8_isDrawing dX8_balance_3 ml_X8_421 mo_X8_isDrawing rfl (q_isDrawing _ hb.1 (f6 1) _) (by decide) ?_
      refine r_cS1 mX8_unless dX8_balance_6 ml_X8_330 mo_X8_unless (q_unless _ _) (by decide) ?_
      rw [bads hx]
      refine r_cV1 mX8_isRefused dX8_balance_9 ml_X8_245 mo_X8_isRefused rfl (q_isRefused _ _) (by decide) ?_
      rw [b2i_t (by decide)]
      refine r_if_eq 19 dX8_balance_12 (by decide) (fun c_12 => by exact absurd c_12 (by decide)) (fun c_12 => ?_)
      refine r_ldc2 dX8_balance_15 ks_X8_102 ?_
      refine r_lret dX8_balance_18 rfl ?_
      exact ⟨rfl, rfl⟩

