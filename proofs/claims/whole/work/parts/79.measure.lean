/-! ===== both: measure, put together ===== -/
theorem inv_mk {h h1 h2 : PH} {n : Nat} {bs : Nat → Int32} {tr fl wp : Int32} {t : NT} {nm : NMS} {ac : List NT} {ms : MES} (i1 : CT h n bs) (i2 : CE h tr fl wp) (i4 : MT h n bs) (i5 : ME h tr fl wp) {x : Int32} (hx : x ≠ 4) (a0 : h1.1 0 = (clH h x).1 0) (a1 : h1.1 1 = h.1 1) (c : CX h1 t nm ac ms) (k : ∀ y, y < 74 → h2.1 y = h1.1 y ∧ h2.2 y = h1.2 y) (m1 : h2.1 74 1 = x) (m2 : h2.1 74 2 = h.1 74 2) (m5 : h2.1 74 5 = h.1 74 5) (m75 : h2.1 75 = h.1 75) (m : MX h2 t nm ac ms) : INV h2 := by
  have g0 : h2.1 0 = (clH h x).1 0 := (k 0 (by decide)).1.trans a0
  refine ⟨n, bs, x, fl, -1, t, nm, ac, ms, ⟨?_, i1.2.1, fun j hj => ?_⟩, ⟨?_, ?_, ?_⟩, c.k (fun y _ hy => k y hy), ⟨m5.trans i4.1, i4.2.1, fun j hj => by rw [m75]; exact i4.2.2 j hj⟩, ⟨m1, m2.trans i5.2.1, fun q => absurd q hx, fun _ => rfl⟩, m⟩
  · rw [g0]; exact ((pI_ne 0 1 (Or.inr (by decide))).trans (pI_ne 0 1 (Or.inr (by decide)))).trans i1.1
  · rw [(k 1 (by decide)).1, a1]; exact i1.2.2 j hj
  · rw [g0]; exact (pI_ne 0 4 (Or.inr (by decide))).trans pI_eq
  · rw [g0]; exact ((pI_ne 0 2 (Or.inr (by decide))).trans (pI_ne 0 2 (Or.inr (by decide)))).trans i2.2.1
  · rw [g0]; exact pI_eq
theorem MX.nt {h : PH} {t : NT} {nm : NMS} {ac : List NT} {ms : MES} (c : MX h t nm ac ms) (j : Nat) (v : Int32) : MX (pI (pI h 94 j 1) 95 j v) t nm ac (adM ms j v) := by
  have g : ∀ y, y ≠ 94 → y ≠ 95 → (pI (pI h 94 j 1) 95 j v).1 y = h.1 y := fun y h1 h2 => funext fun k => (pI_ne y k (Or.inl h2)).trans (pI_ne y k (Or.inl h1))
  obtain ⟨c1, c2, c3, c4, c5, c6⟩ := c
  have g74 := g 74 (by decide) (by decide)
  refine ⟨by rw [g74]; exact c1, by rw [g74]; exact c2, by rw [g74]; exact c3, by rw [g74]; exact c4, fun q => by rw [g74]; exact c5 q, fun hJ => ?_⟩
  obtain ⟨d1, d2, d3, d4, d5⟩ := c6 hJ
  refine ⟨?_, ?_, ?_, ?_, fun k hk => ⟨?_, fun x q => ?_⟩⟩
  · unfold RawM; rw [g74, g 76 (by decide) (by decide), g 77 (by decide) (by decide), g 79 (by decide) (by decide), g 80 (by decide) (by decide), g 81 (by decide) (by decide), g 82 (by decide) (by decide), g 83 (by decide) (by decide), g 84 (by decide) (by decide)]; exact d1
  · unfold SolM NetM drE TreeM RingsM RAtM
    rw [g74, g 76 (by decide) (by decide), g 77 (by decide) (by decide), g 79 (by decide) (by decide), g 80 (by decide) (by decide), g 81 (by decide) (by decide), g 82 (by decide) (by decide), g 83 (by decide) (by decide), g 84 (by decide) (by decide), g 85 (by decide) (by decide), g 86 (by decide) (by decide), g 88 (by decide) (by decide), g 89 (by decide) (by decide), g 90 (by decide) (by decide)]
    exact d2
  · unfold NamM; rw [g 78 (by decide) (by decide)]; exact d3
  · unfold ActM; rw [g74, g 96 (by decide) (by decide), g 97 (by decide) (by decide), g 98 (by decide) (by decide)]; exact d4
  · rw [pI_ne 94 k (Or.inl (by decide))]
    unfold adM
    by_cases e : k = j
    · rw [e, pI_eq]; simp [bI]
    · rw [pI_ne 94 k (Or.inr e), if_neg e]; exact (d5 k hk).1
  · unfold adM at q
    by_cases e : k = j
    · rw [if_pos e] at q; cases q; rw [e]; exact pI_eq
    · rw [if_neg e] at q; rw [pI_ne 95 k (Or.inr e), pI_ne 95 k (Or.inl (by decide))]; exact (d5 k hk).2 x q
set_option maxRecDepth 100000 in
set_option maxHeartbeats 4000000 in
theorem o_measure {h : PH} (i : INV h) (x v : Int32) : Same2 mX7_measure 3 [.ref 0, .int x, .int v] mX8_measure 3 [.ref 74, .int x, .int v] h := by
  have i0 := i
  obtain ⟨n0, bs, tr, fl, wp, t, nm, ac, ms, i1, i2, i3, i4, i5, i6⟩ := i
  have hb := i3.e
  have f6 : ∀ y, (clH h y).1 74 6 = nI (NT.J t) := fun y => by rw [clH_1 (by decide)]; exact i6.1
  by_cases hx : x ≠ 0 ∧ 0 ≤ x ∧ x < nI (NT.J t)
  · by_cases hv : (-900000 : Int32) ≤ v ∧ v ≤ 900000
    · obtain ⟨j, hj, rfl⟩ := ex_nat hb.1 hx.2
      have hJ : 0 < NT.J t := by omega
      have hj0 : 0 < j := Nat.pos_of_ne_zero (fun q => hx.1 (by rw [q]; rfl))
      have hv' : -900000 ≤ v.toInt ∧ v.toInt ≤ 900000 := by
        have e1 : (-900000 : Int32).toInt = -900000 := by decide +kernel
        have e2 : (900000 : Int32).toInt = 900000 := by decide +kernel
        have := hv.1; have := hv.2; rw [fa_le] at *; omega
      have cN := (i3.k (clH_kC (x := 0))).nt hj0 hj hv'
      have tx := (i3.2.2.2 hJ).1
      have ok := tx.1
      have hJ9 := ok.2.1
      obtain ⟨-, nok', mok', -, -, -, mec'⟩ := cN.2.2.2 hJ
      have n9 := mok'.n9 ok
      generalize eN : pI (pI (pI (clH h 0) 72 0 ((clH h 0).1 72 0 ||| ((1 : Int32) <<< (nI j &&& 31)))) 73 j v) 72 2 0 = hN at cN mec'
      have kN : ∀ y, y ≠ 72 → y ≠ 73 → hN.1 y = (clH h 0).1 y ∧ hN.2 y = h.2 y := fun y h1 h2 => by
        rw [← eN]; exact ⟨funext fun k => (pI_ne y k (Or.inl h1)).trans ((pI_ne y k (Or.inl h2)).trans (pI_ne y k (Or.inl h1))), rfl⟩
      have kMN : kM (clH h 0) hN := fun y hy => kN y (by omega) (by omega)
      have i7 := ((i6.k (clH_kM (x := 0))).k kMN).rf 0
      have i8 := i7.nt j v
      have mem := (i8.2.2.2.2.2 hJ).2.2.2.2
      refine ⟨.int (cnM (adM ms j v)), fun h1 => h1 = hN, fun h1 h2 => h2 = pI (pI (rfH h1 0) 94 j 1) 95 j v, ?_, fun h1 p => ?_, fun h1 h2 p q => ?_⟩
      · refine Con.mk (by decide) ?_
        show RT _ _ 0 [some (.ref 0), some (.int (nI j)), some (.int v)] [] _ _
        refine r_aload_0 dX7_measure_0 ?_
        refine r_iload_1 dX7_measure_1 ?_
        refine r_cV1 mX7_isDrawingJoint dX7_measure_2 ml_X7_232 mo_X7_isDrawingJoint rfl (k_isDrawing hb.1 i3.1 _) (by decide) ?_
        rw [b2i_t hx]
        refine r_if_ne 14 dX7_measure_5 (by decide) (fun c_5 => ?_) (fun c_5 => by exact absurd c_5 (by decide))
        refine r_iload_2 dX7_measure_14 ?_
        refine r_ldcw dX7_measure_15 ks_X7_275 ?_
        refine r_icmp_lt 28 dX7_measure_18 (by decide) (fun c_18 => by exact absurd c_18 (nlt_of_ge hv.1)) (fun c_18 => ?_)
        refine r_iload_2 dX7_measure_21 ?_
        refine r_ldcw dX7_measure_22 ks_X7_276 ?_
        refine r_icmp_le 34 dX7_measure_25 (by decide) (fun c_25 => ?_) (fun c_25 => by exact absurd hv.2 c_25)
        refine r_aload_0 dX7_measure_34 ?_
        refine r_cW0 mX7_allow dX7_measure_35 ml_X7_79 mo_X7_allow rfl (k_allow h) (by decide) ?_
        refine r_aload_0 dX7_measure_38 ?_
        refine r_getR (a := 72) dX7_measure_39 fl_X7_54 rfl rfl ?_
        refine r_iload_1 dX7_measure_42 ?_
        refine r_iload_2 dX7_measure_43 ?_
        refine r_cW2 mX1_note dX7_measure_44 ml_X7_277 mo_X1_note rfl (k_note _ (by omega) _) (by decide) ?_
        rw [eN]
        refine r_aload_0 dX7_measure_47 ?_
        refine r_getR (a := 72) dX7_measure_48 fl_X7_54 rfl rfl ?_
        refine r_cV0 mX1_count dX7_measure_51 ml_X7_135 mo_X1_count rfl (k_count mec'.1 n9) (by decide) ?_
        refine r_iret dX7_measure_54 rfl ?_
        exact ⟨rfl, rfl⟩
      · subst p
        have g6 : h1.1 74 6 = nI (NT.J t) := by rw [(kMN 74 (by omega)).1]; exact f6 0
        refine Con.mk (by decide) ?_
        show RT _ _ 0 [some (.ref 74), some (.int (nI j)), some (.int v)] [] _ _
        refine r_aload_0 dX8_measure_0 ?_
        refine r_aload_0 dX8_measure_1 ?_
        refine r_iload_1 dX8_measure_2 ?_
        refine r_cV1 mX8_isDrawing dX8_measure_3 ml_X8_421 mo_X8_isDrawing rfl (q_isDrawing _ hb.1 g6 _) (by decide) ?_
        rw [b2i_t hx]
        refine r_iload_2 dX8_measure_6 ?_
        refine r_i2l dX8_measure_7 ?_
        refine r_ldc2 dX8_measure_8 ks_X8_462 ?_
        refine r_ldc2 dX8_measure_11 ks_X8_464 ?_
        refine r_cS3 mX8_in dX8_measure_14 ml_X8_131 mo_X8_in (q_in _ _ _ _) (by decide) ?_
        rw [b2i_c (in_w (a' := -900000) (b' := 900000) (by decide +kernel) (by decide +kernel)), b2i_t hv]
        refine r_cS2 mX8_unless_ dX8_measure_17 ml_X8_241 mo_X8_unless_ (q_unless2 _ _ _) (by decide) ?_
        rw [show (if (1 : Int32) = 0 then (1 : Int32) else if (1 : Int32) = 0 then 2 else 0) = 0 by decide]
        refine r_cV1 mX8_isRefused dX8_measure_20 ml_X8_245 mo_X8_isRefused rfl (q_isRefused _ _) (by decide) ?_
        rw [b2i_f (by decide)]
        refine r_if_eq 28 dX8_measure_23 (by decide) (fun c_23 => ?_) (fun c_23 => by exact absurd rfl c_23)
        refine r_aload_0 dX8_measure_28 ?_
        refine r_getR (a := 94) dX8_measure_29 fl_X8_80 rfl rfl ?_
        refine r_iload_1 dX8_measure_32 ?_
        refine r_iconst (v := 1) dX8_measure_33 (by decide) ?_
        refine r_zastN dX8_measure_34 rfl (by omega) ?_
        refine r_aload_0 dX8_measure_35 ?_
        refine r_getR (a := 95) dX8_measure_36 fl_X8_84 rfl rfl ?_
        refine r_iload_1 dX8_measure_39 ?_
        refine r_iload_2 dX8_measure_40 ?_
        refine r_iastN dX8_measure_41 rfl (by omega) ?_
        refine r_aload_0 dX8_measure_42 ?_
        refine r_cV0 mX8_measuredMany dX8_measure_43 ml_X8_394 mo_X8_measuredMany rfl (q_many mem) (by decide) ?_
        refine r_iret dX8_measure_46 rfl ?_
        exact ⟨rfl, rfl⟩
      · subst p
        subst q
        refine inv_mk i1 i2 i4 i5 (x := 0) (by decide) (kN 0 (by decide) (by decide)).1 ((kN 1 (by decide) (by decide)).1.trans (clH_1 (by decide))) cN (fun y hy => ?_) ?_ ?_ ?_ ?_ i8
        · exact ⟨(funext fun k => (pI_ne y k (Or.inl (by omega))).trans (pI_ne y k (Or.inl (by omega)))).trans (rfH_1 (by omega)), rfl⟩
        · rw [pI_ne 74 1 (Or.inl (by decide)), pI_ne 74 1 (Or.inl (by decide))]; exact pI_eq
        · rw [pI_ne 74 2 (Or.inl (by decide)), pI_ne 74 2 (Or.inl (by decide)), rfH_f (by decide) (by decide) (by decide), (kMN 74 (by omega)).1, clH_1 (by decide)]
        · rw [pI_ne 74 5 (Or.inl (by decide)), pI_ne 74 5 (Or.inl (by decide)), rfH_f (by decide) (by decide) (by decide), (kMN 74 (by omega)).1, clH_1 (by decide)]
        · refine (funext fun k => (pI_ne 75 k (Or.inl (by decide))).trans (pI_ne 75 k (Or.inl (by decide)))).trans ?_
          rw [rfH_1 (by decide), (kMN 75 (by omega)).1, clH_1 (by decide)]
    · refine Same.to2 i0 ⟨.int (-1), 2, by decide, ?_, ?_⟩
      · refine Con.mk (by decide) ?_
        show RT _ _ 0 [some (.ref 0), some (.int x), some (.int v)] [] _ _
        refine r_aload_0 dX7_measure_0 ?_
        refine r_iload_1 dX7_measure_1 ?_
        refine r_cV1 mX7_isDrawingJoint dX7_measure_2 ml_X7_232 mo_X7_isDrawingJoint rfl (k_isDrawing hb.1 i3.1 _) (by decide) ?_
        rw [b2i_t hx]
        refine r_if_ne 14 dX7_measure_5 (by decide) (fun c_5 => ?_) (fun c_5 => by exact absurd c_5 (by decide))
        refine r_iload_2 dX7_measure_14 ?_
        refine r_ldcw dX7_measure_15 ks_X7_275 ?_
        refine r_icmp_lt 28 dX7_measure_18 (by decide) (fun c_18 => ?_) (fun c_18 => ?_)
        · refine r_aload_0 dX7_measure_28 ?_
          refine r_iconst (v := 2) dX7_measure_29 (by decide) ?_
          refine r_cV1 mX7_refuse dX7_measure_30 ml_X7_65 mo_X7_refuse rfl (k_refuse h 2) (by decide) ?_
          refine r_iret dX7_measure_33 rfl ?_
          exact ⟨rfl, rfl⟩
        · refine r_iload_2 dX7_measure_21 ?_
          refine r_ldcw dX7_measure_22 ks_X7_276 ?_
          refine r_icmp_le 34 dX7_measure_25 (by decide) (fun c_25 => ?_) (fun c_25 => ?_)
          · exact absurd ⟨ge_of_nlt c_18, c_25⟩ hv
          · refine r_aload_0 dX7_measure_28 ?_
            refine r_iconst (v := 2) dX7_measure_29 (by decide) ?_
            refine r_cV1 mX7_refuse dX7_measure_30 ml_X7_65 mo_X7_refuse rfl (k_refuse h 2) (by decide) ?_
            refine r_iret dX7_measure_33 rfl ?_
            exact ⟨rfl, rfl⟩
      · refine Con.mk (by decide) ?_
        show RT _ _ 0 [some (.ref 74), some (.int x), some (.int v)] [] _ _
        refine r_aload_0 dX8_measure_0 ?_
        refine r_aload_0 dX8_measure_1 ?_
        refine r_iload_1 dX8_measure_2 ?_
        refine r_cV1 mX8_isDrawing dX8_measure_3 ml_X8_421 mo_X8_isDrawing rfl (q_isDrawing _ hb.1 (f6 2) _) (by decide) ?_
        rw [b2i_t hx]
        refine r_iload_2 dX8_measure_6 ?_
        refine r_i2l dX8_measure_7 ?_
        refine r_ldc2 dX8_measure_8 ks_X8_462 ?_
        refine r_ldc2 dX8_measure_11 ks_X8_464 ?_
        refine r_cS3 mX8_in dX8_measure_14 ml_X8_131 mo_X8_in (q_in _ _ _ _) (by decide) ?_
        rw [b2i_c (in_w (a' := -900000) (b' := 900000) (by decide +kernel) (by decide +kernel)), b2i_f hv]
        refine r_cS2 mX8_unless_ dX8_measure_17 ml_X8_241 mo_X8_unless_ (q_unless2 _ _ _) (by decide) ?_
        rw [show (if (1 : Int32) = 0 then (1 : Int32) else if (0 : Int32) = 0 then 2 else 0) = 2 by decide]
        refine r_cV1 mX8_isRefused dX8_measure_20 ml_X8_245 mo_X8_isRefused rfl (q_isRefused _ _) (by decide) ?_
        rw [b2i_t (by decide)]
        refine r_if_eq 28 dX8_measure_23 (by decide) (fun c_23 => by exact absurd c_23 (by decide)) (fun c_23 => ?_)
        refine r_iconst (v := (-1)) dX8_measure_26 (by decide) ?_
        refine r_iret dX8_measure_27 rfl ?_
        exact ⟨rfl, rfl⟩
  · refine Same.to2 i0 ⟨.int (-1), 1, by decide, ?_, ?_⟩
    · refine Con.mk (by decide) ?_
      show RT _ _ 0 [some (.ref 0), some (.int x), some (.int v)] [] _ _
      refine r_aload_0 dX7_measure_0 ?_
      refine r_iload_1 dX7_measure_1 ?_
      refine r_cV1 mX7_isDrawingJoint dX7_measure_2 ml_X7_232 mo_X7_isDrawingJoint rfl (k_isDrawing hb.1 i3.1 _) (by decide) ?_
      rw [b2i_f hx]
      refine r_if_ne 14 dX7_measure_5 (by decide) (fun c_5 => by exact absurd rfl c_5) (fun c_5 => ?_)
      refine r_aload_0 dX7_measure_8 ?_
      refine r_iconst (v := 1) dX7_measure_9 (by decide) ?_
      refine r_cV1 mX7_refuse dX7_measure_10 ml_X7_65 mo_X7_refuse rfl (k_refuse h 1) (by decide) ?_
      refine r_iret dX7_measure_13 rfl ?_
      exact ⟨rfl, rfl⟩
    · refine Con.mk (by decide) ?_
      show RT _ _ 0 [some (.ref 74), some (.int x), some (.int v)] [] _ _
      refine r_aload_0 dX8_measure_0 ?_
      refine r_aload_0 dX8_measure_1 ?_
      refine r_iload_1 dX8_measure_2 ?_
      refine r_cV1 mX8_isDrawing dX8_measure_3 ml_X8_421 mo_X8_isDrawing rfl (q_isDrawing _ hb.1 (f6 1) _) (by decide) ?_
      rw [b2i_f hx]
      refine r_iload_2 dX8_measure_6 ?_
      refine r_i2l dX8_measure_7 ?_
      refine r_ldc2 dX8_measure_8 ks_X8_462 ?_
      refine r_ldc2 dX8_measure_11 ks_X8_464 ?_
      refine r_cS3 mX8_in dX8_measure_14 ml_X8_131 mo_X8_in (q_in _ _ _ _) (by decide) ?_
      refine r_cS2 mX8_unless_ dX8_measure_17 ml_X8_241 mo_X8_unless_ (q_unless2 _ _ _) (by decide) ?_
      rw [if_pos rfl]
      refine r_cV1 mX8_isRefused dX8_measure_20 ml_X8_245 mo_X8_isRefused rfl (q_isRefused _ _) (by decide) ?_
      rw [b2i_t (by decide)]
      refine r_if_eq 28 dX8_measure_23 (by decide) (fun c_23 => by exact absurd c_23 (by decide)) (fun c_23 => ?_)
      refine r_iconst (v := (-1)) dX8_measure_26 (by decide) ?_
      refine r_iret dX8_measure_27 rfl ?_
      exact ⟨rfl, rfl⟩

