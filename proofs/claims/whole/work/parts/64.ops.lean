/-! ===== both: simple questions ===== -/
def Same (M1 : MI) (d1 : Nat) (as1 : List Value) (M2 : MI) (d2 : Nat) (as2 : List Value) (h : PH) : Prop := ∃ v why, why ≠ 4 ∧ ConF M1 d1 as1 h (some v) (clH h why) ∧ ConF M2 d2 as2 (clH h why) (some v) (rfH (clH h why) why)
theorem isN15 : isN 15 := Or.inr (Or.inl rfl)
theorem isW14 : isW 14 := Or.inl rfl
theorem ex_nat {x : Int32} {n : Nat} (hn : n < 15) (h : 0 ≤ x ∧ x < nI n) : ∃ e, e < n ∧ x = nI e := by
  have h2 : (nI n).toInt = (n : Int) := (by decide +kernel : ∀ E, E < 15 → (nI E).toInt = (E : Int)) n hn
  obtain ⟨h0, h1⟩ := h
  rw [fa_le, Int32.toInt_zero] at h0
  rw [fa_lt, h2] at h1
  refine ⟨x.toInt.toNat, by omega, ?_⟩
  rw [fa_eq, (by decide +kernel : ∀ E, E < 15 → (nI E).toInt = (E : Int)) x.toInt.toNat (by omega)]
  omega
theorem bads {p : Prop} [Decidable p] (h : ¬ p) : (if b2i p = 0 then (1 : Int32) else 0) = 1 := by rw [b2i_f h]; rfl
theorem goods {p : Prop} [Decidable p] (h : p) : (if b2i p = 0 then (1 : Int32) else 0) = 0 := by rw [b2i_t h]; rfl
theorem CX.e {h : PH} {t : NT} {nm : NMS} {ac : List NT} {ms : MES} (c : CX h t nm ac ms) : NT.J t < 15 ∧ NT.E t < 15 := by
  by_cases q : 0 < NT.J t
  · have := (c.2.2.2 q).1.1; have h1 := this.2.1; have h2 := this.2.2.1; omega
  · have := c.2.2.1 (by omega); omega
theorem CX.je {h : PH} {t : NT} {nm : NMS} {ac : List NT} {ms : MES} (c : CX h t nm ac ms) {e : Nat} (he : e < NT.E t) : 0 < NT.J t := Nat.pos_of_ne_zero (fun q => by have := c.2.2.1 q; omega)
set_option maxRecDepth 100000 in
set_option maxHeartbeats 4000000 in
theorem k_refuse (h : PH) (x : Int32) : ConF mX7_refuse 1 [.ref 0, .int x] h (some (.int (-1))) (clH h x) := by
  refine Con.mk (by decide) ?_
  show RT _ _ 0 [some (.ref 0), some (.int x)] [] _ _
  refine r_aload_0 dX7_refuse_0 ?_
  refine r_iload_1 dX7_refuse_1 ?_
  refine r_putI dX7_refuse_2 fl_X7_325 rfl rfl rfl ?_
  refine r_aload_0 dX7_refuse_5 ?_
  refine r_iconst (v := (-1)) dX7_refuse_6 (by decide) ?_
  refine r_putI dX7_refuse_7 fl_X7_15 rfl rfl rfl ?_
  refine r_iconst (v := (-1)) dX7_refuse_10 (by decide) ?_
  refine r_iret dX7_refuse_11 rfl ?_
  exact ⟨rfl, rfl⟩

set_option maxRecDepth 100000 in
set_option maxHeartbeats 4000000 in
theorem k_refuseL (h : PH) (x : Int32) : ConF mX7_refuseLong 2 [.ref 0, .int x] h (some (.long (-9223372036854775808))) (clH h x) := by
  refine Con.mk (by decide) ?_
  show RT _ _ 0 [some (.ref 0), some (.int x)] [] _ _
  refine r_aload_0 dX7_refuseLong_0 ?_
  refine r_iload_1 dX7_refuseLong_1 ?_
  refine r_cV1 mX7_refuse dX7_refuseLong_2 ml_X7_65 mo_X7_refuse rfl (k_refuse h x) (by decide) ?_
  refine r_popi dX7_refuseLong_5 ?_
  refine r_ldc2 dX7_refuseLong_6 ks_X7_254 ?_
  refine r_lret dX7_refuseLong_9 rfl ?_
  exact ⟨rfl, rfl⟩

set_option maxRecDepth 100000 in
set_option maxHeartbeats 4000000 in
theorem k_allow (h : PH) : ConF mX7_allow 1 [.ref 0] h none (clH h 0) := by
  refine Con.mk (by decide) ?_
  show RT _ _ 0 [some (.ref 0)] [] _ _
  refine r_aload_0 dX7_allow_0 ?_
  refine r_iconst (v := 0) dX7_allow_1 (by decide) ?_
  refine r_putI dX7_allow_2 fl_X7_325 rfl rfl rfl ?_
  refine r_aload_0 dX7_allow_5 ?_
  refine r_iconst (v := (-1)) dX7_allow_6 (by decide) ?_
  refine r_putI dX7_allow_7 fl_X7_15 rfl rfl rfl ?_
  refine r_vret dX7_allow_10 rfl ?_
  exact ⟨rfl, rfl⟩

set_option maxRecDepth 100000 in
set_option maxHeartbeats 4000000 in
theorem k_hasText {h : PH} {n : Nat} (hn : n < 15) (hf : h.1 15 0 = nI n) : ConF mX7_hasText 1 [.ref 0] h (some (.int (b2i (0 < n)))) h := by
  refine Con.mk (by decide) ?_
  show RT _ _ 0 [some (.ref 0)] [] _ _
  refine r_aload_0 dX7_hasText_0 ?_
  refine r_getR (a := 15) dX7_hasText_1 fl_X7_37 rfl rfl ?_
  refine r_getI dX7_hasText_4 fl_X7_98 rfl ?_
  rw [hf]
  refine r_if_le 14 dX7_hasText_7 (by decide) (fun c_7 => ?_) (fun c_7 => ?_)
  · refine r_iconst (v := 0) dX7_hasText_14 (by decide) ?_
    refine r_zret dX7_hasText_15 rfl rfl ?_
    refine ⟨congrArg (fun x => some (Value.int x)) ?_, rfl⟩
    by_cases q : 0 < n
    · first | exact absurd c_7 (nI_nle q (by omega)) | exact (b2i_t q).symm
    · have : n = 0 := by omega
      subst this
      first | exact absurd (show nI 0 ≤ 0 by decide) c_7 | exact (b2i_f q).symm
  · refine r_iconst (v := 1) dX7_hasText_10 (by decide) ?_
    refine r_goto 15 dX7_hasText_11 (by decide) ?_
    refine r_zret dX7_hasText_15 rfl rfl ?_
    refine ⟨congrArg (fun x => some (Value.int x)) ?_, rfl⟩
    by_cases q : 0 < n
    · first | exact absurd c_7 (nI_nle q (by omega)) | exact (b2i_t q).symm
    · have : n = 0 := by omega
      subst this
      first | exact absurd (show nI 0 ≤ 0 by decide) c_7 | exact (b2i_f q).symm

set_option maxRecDepth 100000 in
set_option maxHeartbeats 4000000 in
theorem k_isDrawing {h : PH} {n : Nat} (hn : n < 15) (hf : h.1 15 0 = nI n) (x : Int32) : ConF mX7_isDrawingJoint 2 [.ref 0, .int x] h (some (.int (b2i (x ≠ 0 ∧ 0 ≤ x ∧ x < nI n)))) h := by
  refine Con.mk (by decide) ?_
  show RT _ _ 0 [some (.ref 0), some (.int x)] [] _ _
  refine r_iload_1 dX7_isDrawingJoint_0 ?_
  refine r_if_eq 19 dX7_isDrawingJoint_1 (by decide) (fun c_1 => ?_) (fun c_1 => ?_)
  · refine r_iconst (v := 0) dX7_isDrawingJoint_19 (by decide) ?_
    refine r_zret dX7_isDrawingJoint_20 rfl rfl ?_
    refine ⟨congrArg (fun x => some (Value.int x)) ?_, rfl⟩
    by_cases z : x = 0
    · first | exact absurd z c_1 | exact (b2i_f (fun q => q.1 z)).symm
    · by_cases y : 0 ≤ x ∧ x < nI n
      · first | exact absurd c_1 z | exact absurd c_12 (by rw [b2i_t y]; decide) | exact (b2i_t ⟨z, y⟩).symm
      · first | exact absurd c_1 z | exact absurd (b2i_f y) c_12 | exact (b2i_f (fun q => y q.2)).symm
  · refine r_aload_0 dX7_isDrawingJoint_4 ?_
    refine r_getR (a := 15) dX7_isDrawingJoint_5 fl_X7_37 rfl rfl ?_
    refine r_iload_1 dX7_isDrawingJoint_8 ?_
    refine r_cV1 mX2_hasJoint dX7_isDrawingJoint_9 ml_X7_183 mo_X2_hasJoint rfl (k_X2_hasJoint isN15 h x) (by decide) ?_
    rw [hf]
    refine r_if_eq 19 dX7_isDrawingJoint_12 (by decide) (fun c_12 => ?_) (fun c_12 => ?_)
    · refine r_iconst (v := 0) dX7_isDrawingJoint_19 (by decide) ?_
      refine r_zret dX7_isDrawingJoint_20 rfl rfl ?_
      refine ⟨congrArg (fun x => some (Value.int x)) ?_, rfl⟩
      by_cases z : x = 0
      · first | exact absurd z c_1 | exact (b2i_f (fun q => q.1 z)).symm
      · by_cases y : 0 ≤ x ∧ x < nI n
        · first | exact absurd c_1 z | exact absurd c_12 (by rw [b2i_t y]; decide) | exact (b2i_t ⟨z, y⟩).symm
        · first | exact absurd c_1 z | exact absurd (b2i_f y) c_12 | exact (b2i_f (fun q => y q.2)).symm
    · refine r_iconst (v := 1) dX7_isDrawingJoint_15 (by decide) ?_
      refine r_goto 20 dX7_isDrawingJoint_16 (by decide) ?_
      refine r_zret dX7_isDrawingJoint_20 rfl rfl ?_
      refine ⟨congrArg (fun x => some (Value.int x)) ?_, rfl⟩
      by_cases z : x = 0
      · first | exact absurd z c_1 | exact (b2i_f (fun q => q.1 z)).symm
      · by_cases y : 0 ≤ x ∧ x < nI n
        · first | exact absurd c_1 z | exact absurd c_12 (by rw [b2i_t y]; decide) | exact (b2i_t ⟨z, y⟩).symm
        · first | exact absurd c_1 z | exact absurd (b2i_f y) c_12 | exact (b2i_f (fun q => y q.2)).symm

set_option maxRecDepth 100000 in
set_option maxHeartbeats 4000000 in
theorem o_flow {h : PH} (i : INV h) (x : Int32) : Same mX7_flow 3 [.ref 0, .int x] mX8_flow 3 [.ref 74, .int x] h := by
  obtain ⟨n, bs, tr, fl, wp, t, nm, ac, ms, i1, i2, i3, i4, i5, i6⟩ := i
  have hb := i3.e
  have f7 : ∀ y, (clH h y).1 74 7 = nI (NT.E t) := fun y => by rw [clH_1 (by decide)]; exact i6.2.1
  by_cases hx : 0 ≤ x ∧ x < nI (NT.E t)
  · obtain ⟨e, he, rfl⟩ := ex_nat hb.2 hx
    have hJ := i3.je he
    obtain ⟨tx, nok, mok, sc, nac, acc, mec⟩ := (i3.k (clH_kC (x := 0))).2.2.2 hJ
    have ok := tx.1
    have hE14 := ok.2.2.1
    have hJ9 := ok.2.1
    obtain ⟨nc, s9, s10, s12, s11, tc, rc, flc, hdc⟩ := sc
    obtain ⟨-, -, m44, m46, -, mm⟩ := (i6.k (clH_kM (x := 0))).rf 0
    obtain ⟨rwm, sm, nam, acm, mem⟩ := mm hJ
    obtain ⟨ncm, p28, p39, p41, p40, tcm, rcm, flm, hdm⟩ := sm
    refine ⟨.long ((flS (snOf t) (solveS (snOf t)).1 60).1 e), 0, by decide, ?_, ?_⟩
    · refine Con.mk (by decide) ?_
      show RT _ _ 0 [some (.ref 0), some (.int (nI e))] [] _ _
      refine r_aload_0 dX7_flow_0 ?_
      refine r_getR (a := 15) dX7_flow_1 fl_X7_37 rfl rfl ?_
      refine r_iload_1 dX7_flow_4 ?_
      refine r_cV1 mX2_hasEdge dX7_flow_5 ml_X7_137 mo_X2_hasEdge rfl (k_X2_hasEdge isN15 h (nI e)) (by decide) ?_
      rw [i3.2.1, b2i_t hx]
      refine r_if_ne 17 dX7_flow_8 (by decide) (fun c_8 => ?_) (fun c_8 => by exact absurd c_8 (by decide))
      refine r_aload_0 dX7_flow_17 ?_
      refine r_cW0 mX7_allow dX7_flow_18 ml_X7_79 mo_X7_allow rfl (k_allow h) (by decide) ?_
      refine r_aload_0 dX7_flow_21 ?_
      refine r_getR (a := 14) dX7_flow_22 fl_X7_29 rfl rfl ?_
      refine r_getR (a := 36) dX7_flow_25 fl_X7_175 rfl rfl ?_
      refine r_iload_1 dX7_flow_28 ?_
      refine r_laldN dX7_flow_29 rfl (by omega) ?_
      rw [show (clH h 0).2 36 e = _ from flc e (by omega)]
      refine r_lret dX7_flow_30 rfl ?_
      exact ⟨rfl, rfl⟩
    · refine Con.mk (by decide) ?_
      show RT _ _ 0 [some (.ref 74), some (.int (nI e))] [] _ _
      refine r_aload_0 dX8_flow_0 ?_
      refine r_aload_0 dX8_flow_1 ?_
      refine r_iload_1 dX8_flow_2 ?_
      refine r_cV1 mX8_isEdge dX8_flow_3 ml_X8_317 mo_X8_isEdge rfl (q_isEdge _ hb.2 (f7 0) _) (by decide) ?_
      refine r_cS1 mX8_unless dX8_flow_6 ml_X8_330 mo_X8_unless (q_unless _ _) (by decide) ?_
      rw [goods hx]
      refine r_cV1 mX8_isRefused dX8_flow_9 ml_X8_245 mo_X8_isRefused rfl (q_isRefused _ _) (by decide) ?_
      rw [b2i_f (by decide)]
      refine r_if_eq 21 dX8_flow_12 (by decide) (fun c_12 => ?_) (fun c_12 => by exact absurd rfl c_12)
      refine r_aload_0 dX8_flow_21 ?_
      refine r_getR (a := 87) dX8_flow_22 fl_X8_52 rfl rfl ?_
      refine r_iload_1 dX8_flow_25 ?_
      refine r_laldN dX8_flow_26 rfl (by omega) ?_
      rw [flm e (by omega)]
      refine r_lret dX8_flow_27 rfl ?_
      exact ⟨rfl, rfl⟩
  · refine ⟨.long (-9223372036854775808), 1, by decide, ?_, ?_⟩
    · refine Con.mk (by decide) ?_
      show RT _ _ 0 [some (.ref 0), some (.int x)] [] _ _
      refine r_aload_0 dX7_flow_0 ?_
      refine r_getR (a := 15) dX7_flow_1 fl_X7_37 rfl rfl ?_
      refine r_iload_1 dX7_flow_4 ?_
      refine r_cV1 mX2_hasEdge dX7_flow_5 ml_X7_137 mo_X2_hasEdge rfl (k_X2_hasEdge isN15 h x) (by decide) ?_
      rw [i3.2.1, b2i_f hx]
      refine r_if_ne 17 dX7_flow_8 (by decide) (fun c_8 => by exact absurd rfl c_8) (fun c_8 => ?_)
      refine r_aload_0 dX7_flow_11 ?_
      refine r_iconst (v := 1) dX7_flow_12 (by decide) ?_
      refine r_cV1 mX7_refuseLong dX7_flow_13 ml_X7_171 mo_X7_refuseLong rfl (k_refuseL h 1) (by decide) ?_
      refine r_lret dX7_flow_16 rfl ?_
      exact ⟨rfl, rfl⟩
    · refine Con.mk (by decide) ?_
      show RT _ _ 0 [some (.ref 74), some (.int x)] [] _ _
      refine r_aload_0 dX8_flow_0 ?_
      refine r_aload_0 dX8_flow_1 ?_
      refine r_iload_1 dX8_flow_2 ?_
      refine r_cV1 mX8_isEdge dX8_flow_3 ml_X8_317 mo_X8_isEdge rfl (q_isEdge _ hb.2 (f7 1) _) (by decide) ?_
      refine r_cS1 mX8_unless dX8_flow_6 ml_X8_330 mo_X8_unless (q_unless _ _) (by decide) ?_
      rw [bads hx]
      refine r_cV1 mX8_isRefused dX8_flow_9 ml_X8_245 mo_X8_isRefused rfl (q_isRefused _ _) (by decide) ?_
      rw [b2i_t (by decide)]
      refine r_if_eq 21 dX8_flow_12 (by decide) (fun c_12 => by exact absurd c_12 (by decide)) (fun c_12 => ?_)
      refine r_ldc2 dX8_flow_15 ks_X8_102 ?_
      refine r_goto 27 dX8_flow_18 (by decide) ?_
      refine r_lret dX8_flow_27 rfl ?_
      exact ⟨rfl, rfl⟩

set_option maxRecDepth 100000 in
set_option maxHeartbeats 4000000 in
theorem o_loss {h : PH} (i : INV h) (x : Int32) : Same mX7_loss 3 [.ref 0, .int x] mX8_loss 3 [.ref 74, .int x] h := by
  obtain ⟨n, bs, tr, fl, wp, t, nm, ac, ms, i1, i2, i3, i4, i5, i6⟩ := i
  have hb := i3.e
  have f7 : ∀ y, (clH h y).1 74 7 = nI (NT.E t) := fun y => by rw [clH_1 (by decide)]; exact i6.2.1
  by_cases hx : 0 ≤ x ∧ x < nI (NT.E t)
  · obtain ⟨e, he, rfl⟩ := ex_nat hb.2 hx
    have hJ := i3.je he
    obtain ⟨tx, nok, mok, sc, nac, acc, mec⟩ := (i3.k (clH_kC (x := 0))).2.2.2 hJ
    have ok := tx.1
    have hE14 := ok.2.2.1
    have hJ9 := ok.2.1
    obtain ⟨nc, s9, s10, s12, s11, tc, rc, flc, hdc⟩ := sc
    obtain ⟨-, -, m44, m46, -, mm⟩ := (i6.k (clH_kM (x := 0))).rf 0
    obtain ⟨rwm, sm, nam, acm, mem⟩ := mm hJ
    obtain ⟨ncm, p28, p39, p41, p40, tcm, rcm, flm, hdm⟩ := sm
    refine ⟨.long (lsT t e ((flS (snOf t) (solveS (snOf t)).1 60).1 e)), 0, by decide, ?_, ?_⟩
    · refine Con.mk (by decide) ?_
      show RT _ _ 0 [some (.ref 0), some (.int (nI e))] [] _ _
      refine r_aload_0 dX7_loss_0 ?_
      refine r_getR (a := 15) dX7_loss_1 fl_X7_37 rfl rfl ?_
      refine r_iload_1 dX7_loss_4 ?_
      refine r_cV1 mX2_hasEdge dX7_loss_5 ml_X7_137 mo_X2_hasEdge rfl (k_X2_hasEdge isN15 h (nI e)) (by decide) ?_
      rw [i3.2.1, b2i_t hx]
      refine r_if_ne 17 dX7_loss_8 (by decide) (fun c_8 => ?_) (fun c_8 => by exact absurd c_8 (by decide))
      refine r_aload_0 dX7_loss_17 ?_
      refine r_cW0 mX7_allow dX7_loss_18 ml_X7_79 mo_X7_allow rfl (k_allow h) (by decide) ?_
      refine r_aload_0 dX7_loss_21 ?_
      refine r_getR (a := 15) dX7_loss_22 fl_X7_37 rfl rfl ?_
      refine r_iload_1 dX7_loss_25 ?_
      refine r_aload_0 dX7_loss_26 ?_
      refine r_getR (a := 14) dX7_loss_27 fl_X7_29 rfl rfl ?_
      refine r_getR (a := 36) dX7_loss_30 fl_X7_175 rfl rfl ?_
      refine r_iload_1 dX7_loss_33 ?_
      refine r_laldN dX7_loss_34 rfl (by omega) ?_
      rw [show (clH h 0).2 36 e = _ from flc e (by omega)]
      refine r_cV2 mX2_lossBy dX7_loss_35 ml_X7_179 mo_X2_lossBy rfl (k_X2_lossBy isN15 ok nc he _) (by decide) ?_
      refine r_lret dX7_loss_38 rfl ?_
      exact ⟨rfl, rfl⟩
    · refine Con.mk (by decide) ?_
      show RT _ _ 0 [some (.ref 74), some (.int (nI e))] [] _ _
      refine r_aload_0 dX8_loss_0 ?_
      refine r_aload_0 dX8_loss_1 ?_
      refine r_iload_1 dX8_loss_2 ?_
      refine r_cV1 mX8_isEdge dX8_loss_3 ml_X8_317 mo_X8_isEdge rfl (q_isEdge _ hb.2 (f7 0) _) (by decide) ?_
      refine r_cS1 mX8_unless dX8_loss_6 ml_X8_330 mo_X8_unless (q_unless _ _) (by decide) ?_
      rw [goods hx]
      refine r_cV1 mX8_isRefused dX8_loss_9 ml_X8_245 mo_X8_isRefused rfl (q_isRefused _ _) (by decide) ?_
      rw [b2i_f (by decide)]
      refine r_if_eq 21 dX8_loss_12 (by decide) (fun c_12 => ?_) (fun c_12 => by exact absurd rfl c_12)
      refine r_aload_0 dX8_loss_21 ?_
      refine r_iload_1 dX8_loss_22 ?_
      refine r_aload_0 dX8_loss_23 ?_
      refine r_getR (a := 87) dX8_loss_24 fl_X8_52 rfl rfl ?_
      refine r_iload_1 dX8_loss_27 ?_
      refine r_laldN dX8_loss_28 rfl (by omega) ?_
      rw [flm e (by omega)]
      refine r_cV2 mX8_lossOf dX8_loss_29 ml_X8_324 mo_X8_lossOf rfl (q_lossOf ok ncm he _) (by decide) ?_
      refine r_lret dX8_loss_32 rfl ?_
      exact ⟨rfl, rfl⟩
  · refine ⟨.long (-9223372036854775808), 1, by decide, ?_, ?_⟩
    · refine Con.mk (by decide) ?_
      show RT _ _ 0 [some (.ref 0), some (.int x)] [] _ _
      refine r_aload_0 dX7_loss_0 ?_
      refine r_getR (a := 15) dX7_loss_1 fl_X7_37 rfl rfl ?_
      refine r_iload_1 dX7_loss_4 ?_
      refine r_cV1 mX2_hasEdge dX7_loss_5 ml_X7_137 mo_X2_hasEdge rfl (k_X2_hasEdge isN15 h x) (by decide) ?_
      rw [i3.2.1, b2i_f hx]
      refine r_if_ne 17 dX7_loss_8 (by decide) (fun c_8 => by exact absurd rfl c_8) (fun c_8 => ?_)
      refine r_aload_0 dX7_loss_11 ?_
      refine r_iconst (v := 1) dX7_loss_12 (by decide) ?_
      refine r_cV1 mX7_refuseLong dX7_loss_13 ml_X7_171 mo_X7_refuseLong rfl (k_refuseL h 1) (by decide) ?_
      refine r_lret dX7_loss_16 rfl ?_
      exact ⟨rfl, rfl⟩
    · refine Con.mk (by decide) ?_
      show RT _ _ 0 [some (.ref 74), some (.int x)] [] _ _
      refine r_aload_0 dX8_loss_0 ?_
      refine r_aload_0 dX8_loss_1 ?_
      refine r_iload_1 dX8_loss_2 ?_
      refine r_cV1 mX8_isEdge dX8_loss_3 ml_X8_317 mo_X8_isEdge rfl (q_isEdge _ hb.2 (f7 1) _) (by decide) ?_
      refine r_cS1 mX8_unless dX8_loss_6 ml_X8_330 mo_X8_unless (q_unless _ _) (by decide) ?_
      rw [bads hx]
      refine r_cV1 mX8_isRefused dX8_loss_9 ml_X8_245 mo_X8_isRefused rfl (q_isRefused _ _) (by decide) ?_
      rw [b2i_t (by decide)]
      refine r_if_eq 21 dX8_loss_12 (by decide) (fun c_12 => by exact absurd c_12 (by decide)) (fun c_12 => ?_)
      refine r_ldc2 dX8_loss_15 ks_X8_102 ?_
      refine r_goto 32 dX8_loss_18 (by decide) ?_
      refine r_lret dX8_loss_32 rfl ?_
      exact ⟨rfl, rfl⟩

