/-! ===== both: leak, put together ===== -/
theorem CX.lk {h h' : PH} {t : NT} {nm : NMS} {ac : List NT} {ms : MES} (c : CX h t nm ac ms) (k : Fr paL h h') (e0 : h'.1 72 0 = h.1 72 0) (e2 : h'.1 72 2 = 1) (e3 : h'.1 72 3 = nI (lkS t ms).1 ∧ h'.1 72 4 = nI (lkS t ms).2.1 ∧ h'.2 72 5 = (lkS t ms).2.2) : CX h' t nm ac ms := by
  have g : ∀ y, ¬ paL y → h'.1 y = h.1 y := fun y a => (k y a).1
  have g2 : ∀ y, ¬ paL y → h'.2 y = h.2 y := fun y a => (k y a).2
  have nlo : ∀ y, y < 41 → ¬ paL y := fun y hy q => by unfold paL pap at q; omega
  have nhi : ∀ y, 68 ≤ y → y ≠ 72 → ¬ paL y := fun y hy h0 q => by unfold paL pap at q; omega
  obtain ⟨c1, c2, c3, c4⟩ := c
  refine ⟨by rw [g 15 (nlo _ (by omega))]; exact c1, by rw [g 15 (nlo _ (by omega))]; exact c2, c3, fun h0 => ?_⟩
  obtain ⟨d1, d2, d3, d4, d5, d6, d7⟩ := c4 h0
  refine ⟨d1, d2, d3, ?_, ?_, ?_, ?_⟩
  · obtain ⟨s1, s2, s3, s4, s5, s6, s7, s8, s9⟩ := d4
    refine ⟨s1.fr k (fun j hj => nlo _ (by omega)), ?_, ?_, ?_, ?_, s6.fr k (fun j hj => nlo _ (by omega)), s7.fr k (fun j hj => nlo _ (by omega)), ?_, ?_⟩
    · rw [g 14 (nlo _ (by omega))]; exact s2
    · rw [g 14 (nlo _ (by omega))]; exact s3
    · rw [g 14 (nlo _ (by omega))]; exact s4
    · rw [g 14 (nlo _ (by omega))]; exact s5
    · rw [g2 36 (nlo _ (by omega))]; exact s8
    · rw [g2 37 (nlo _ (by omega))]; exact s9
  · unfold NamC; rw [g2 16 (nlo _ (by omega))]; exact d5
  · unfold ActC; rw [g 68 (nhi _ (by omega) (by omega)), g 69 (nhi _ (by omega) (by omega)), g 70 (nhi _ (by omega) (by omega)), g 71 (nhi _ (by omega) (by omega))]; exact d6
  · refine ⟨fun j hj => by rw [e0]; exact d7.1 j hj, fun j v q => by rw [g 73 (nhi _ (by omega) (by omega))]; exact d7.2.1 j v q, Or.inr ⟨e2, Or.inr e3⟩⟩
set_option maxRecDepth 100000 in
set_option maxHeartbeats 4000000 in
theorem o_leak {h : PH} (i : INV h) (x : Int32) : Same2 mX7_leak 8 [.ref 0, .int x] mX8_leak 9 [.ref 74, .int x] h := by
  have i0 := i
  obtain ⟨n0, bs, tr, fl, wp, t, nm, ac, ms, i1, i2, i3, i4, i5, i6⟩ := i
  have hb := i3.e
  have f6 : ∀ {h1 : PH}, kM h h1 → h1.1 74 6 = nI (NT.J t) := fun p => by rw [(p 74 (by omega)).1]; exact i6.1
  by_cases hJ : 0 < NT.J t
  · by_cases hx : (0 : Int32) ≤ x ∧ x ≤ 2
    · obtain ⟨tx, nok, mok, sc, nac, acc, mec⟩ := i3.2.2.2 hJ
      have hJ1 := tx.2.1
      have n9 := mok.n9 tx.1
      have me0 : ∀ {h1 : PH}, kM h h1 → MeaM h1 ms := fun p => ((i6.k p).2.2.2.2.2 hJ).2.2.2.2
      obtain ⟨u, hu, rfl⟩ := ex_le (k := 2) (by decide) hx
      by_cases hc : cnM ms = 0
      · refine Same.to2 i0 ⟨.long (-9223372036854775808), 5, by decide, ?_, ?_⟩
        · refine Con.mk (by decide) ?_
          show RT _ _ 0 [some (.ref 0), some (.int (nI u))] [] _ _
          refine r_aload_0 dX7_leak_0 ?_
          refine r_cV0 mX7_hasText dX7_leak_1 ml_X7_101 mo_X7_hasText rfl (k_hasText hb.1 i3.1) (by decide) ?_
          rw [b2i_t hJ]
          refine r_if_eq 16 dX7_leak_4 (by decide) (fun c_4 => by exact absurd c_4 (by decide)) (fun c_4 => ?_)
          refine r_iload_1 dX7_leak_7 ?_
          refine r_if_lt 16 dX7_leak_8 (by decide) (fun c_8 => by exact absurd c_8 (nI_pos (by omega))) (fun c_8 => ?_)
          refine r_iload_1 dX7_leak_11 ?_
          refine r_iconst (v := nI 2) dX7_leak_12 (by decide) ?_
          refine r_icmpN_le 22 dX7_leak_13 (by decide) (by omega) (by omega) (fun c_13 => ?_) (fun c_13 => by omega)
          refine r_aload_0 dX7_leak_22 ?_
          refine r_getR (a := 72) dX7_leak_23 fl_X7_54 rfl rfl ?_
          refine r_cV0 mX1_count dX7_leak_26 ml_X7_135 mo_X1_count rfl (k_count mec.1 n9) (by decide) ?_
          rw [hc]
          refine r_if_ne 38 dX7_leak_29 (by decide) (fun c_29 => by exact absurd rfl c_29) (fun c_29 => ?_)
          refine r_aload_0 dX7_leak_32 ?_
          refine r_iconst (v := 5) dX7_leak_33 (by decide) ?_
          refine r_cV1 mX7_refuseLong dX7_leak_34 ml_X7_171 mo_X7_refuseLong rfl (k_refuseL h 5) (by decide) ?_
          refine r_lret dX7_leak_37 rfl ?_
          exact ⟨rfl, rfl⟩
        · refine Con.mk (by decide) ?_
          show RT _ _ 0 [some (.ref 74), some (.int (nI u)), none, none, none, none, none, none, none, none, none] [] _ _
          refine r_aload_0 dX8_leak_0 ?_
          refine r_getI dX8_leak_1 fl_X8_229 rfl ?_
          rw [f6 clH_kM]
          refine r_if_le 23 dX8_leak_4 (by decide) (fun c_4 => by exact absurd c_4 (nI_nle hJ (by omega))) (fun c_4 => ?_)
          refine r_iload_1 dX8_leak_7 ?_
          refine r_i2l dX8_leak_8 ?_
          refine r_lconst (v := 0) dX8_leak_9 (by decide) ?_
          refine r_ldc2 dX8_leak_10 ks_X8_312 ?_
          refine r_cS3 mX8_in dX8_leak_13 ml_X8_131 mo_X8_in (q_in _ _ _ _) (by decide) ?_
          rw [b2i_c (in_w (a' := 0) (b' := 2) (by decide +kernel) (by decide +kernel)), b2i_t hx]
          refine r_if_eq 23 dX8_leak_16 (by decide) (fun c_16 => by exact absurd c_16 (by decide)) (fun c_16 => ?_)
          refine r_iconst (v := 1) dX8_leak_19 (by decide) ?_
          refine r_goto 24 dX8_leak_20 (by decide) ?_
          refine r_cS1 mX8_unless dX8_leak_24 ml_X8_330 mo_X8_unless (q_unless _ _) (by decide) ?_
          rw [un1]
          refine r_istore_2 dX8_leak_27 ?_
          refine r_aload_0 dX8_leak_28 ?_
          refine r_iload_2 dX8_leak_29 ?_
          refine r_if_eq 37 dX8_leak_30 (by decide) (fun c_30 => ?_) (fun c_30 => by exact absurd rfl c_30)
          refine r_aload_0 dX8_leak_37 ?_
          refine r_cV0 mX8_measuredMany dX8_leak_38 ml_X8_394 mo_X8_measuredMany rfl (q_many (me0 clH_kM)) (by decide) ?_
          rw [hc]
          refine r_if_ne 48 dX8_leak_41 (by decide) (fun c_41 => by exact absurd rfl c_41) (fun c_41 => ?_)
          refine r_iconst (v := 5) dX8_leak_44 (by decide) ?_
          refine r_goto 49 dX8_leak_45 (by decide) ?_
          refine r_cV1 mX8_isRefused dX8_leak_49 ml_X8_245 mo_X8_isRefused rfl (q_isRefused _ _) (by decide) ?_
          rw [b2i_t (by decide)]
          refine r_if_eq 59 dX8_leak_52 (by decide) (fun c_52 => by exact absurd c_52 (by decide)) (fun c_52 => ?_)
          refine r_ldc2 dX8_leak_55 ks_X8_102 ?_
          refine r_lret dX8_leak_58 rfl ?_
          exact ⟨rfl, rfl⟩
      · have fin : ∀ {h1 h2 : PH}, (CX h1 t nm ac ms ∧ h1.1 0 = (clH h 0).1 0 ∧ h1.1 1 = h.1 1) ∧ kM h h1 → (SolM h2 t (solveS (snOf t)) ∧ h2.1 74 44 = -1 ∧ h2.1 74 46 = 100 ∧ FM slS slG (rfH h1 0) h2) → INV h2 := fun {h1 h2} p z => by
          have zz : ∀ k, k < 28 → h2.1 74 k = (rfH h1 0).1 74 k := fun k hk => z.2.2.2.1 k (fun q => by unfold slG at q; omega)
          have p74 : h1.1 74 = h.1 74 := (p.2 74 (by omega)).1
          refine inv_mk i1 i2 i4 i5 (x := 0) (by decide) p.1.2.1 p.1.2.2 p.1.1 (fun y hy => ?_) ((zz 1 (by omega)).trans pI_eq) ?_ ?_ ?_ (MX.fm2 ((i6.k p.2).rf 0) z.1 z.2.1 z.2.2.1 z.2.2.2 hJ)
          · have := z.2.2.2.2.1 y (by omega) (fun q => by have := q.1; omega)
            exact ⟨this.1.trans (rfH_1 (by omega)), this.2⟩
          · rw [zz 2 (by omega), rfH_f (by decide) (by decide) (by decide), p74]
          · rw [zz 5 (by omega), rfH_f (by decide) (by decide) (by decide), p74]
          · rw [(z.2.2.2.2.1 75 (by omega) (fun q => by have := q.1; omega)).1, rfH_1 (by decide), (p.2 75 (by omega)).1]
        have c0 := i3.k (clH_kC (x := 0))
        obtain ⟨-, -, -, sc0, -, -, mec0⟩ := c0.2.2.2 hJ
        have nc0 : NetC (clH h 0) 15 t := sc0.1
        have ld : ∀ h1, Fr paL (clH h 0) h1 → h1.1 72 0 = (clH h 0).1 72 0 → h1.1 72 2 = 1 → (h1.1 72 3 = nI (lkS t ms).1 ∧ h1.1 72 4 = nI (lkS t ms).2.1 ∧ h1.2 72 5 = (lkS t ms).2.2) → (CX h1 t nm ac ms ∧ h1.1 0 = (clH h 0).1 0 ∧ h1.1 1 = h.1 1) ∧ kM h h1 := fun h1 f e0 e2 e3 => by
          refine ⟨⟨c0.lk f e0 e2 e3, (f 0 (fun q => by unfold paL pap at q; omega)).1, ((f 1 (fun q => by unfold paL pap at q; omega)).1.trans (clH_1 (by decide)))⟩, fun y hy => ?_⟩
          have := f y (fun q => by unfold paL pap at q; omega)
          exact ⟨this.1.trans (clH_1 (by omega)), this.2⟩
        have h3 : u = 0 ∨ u = 1 ∨ u = 2 := by omega
        rcases h3 with rfl | rfl | rfl
        · refine ⟨.long (nI (lkS t ms).1).toInt64, fun h1 => (CX h1 t nm ac ms ∧ h1.1 0 = (clH h 0).1 0 ∧ h1.1 1 = h.1 1) ∧ kM h h1, fun h1 h2 => SolM h2 t (solveS (snOf t)) ∧ h2.1 74 44 = -1 ∧ h2.1 74 46 = 100 ∧ FM slS slG (rfH h1 0) h2, ?_, fun h1 q => ?_, fun h1 h2 q z => fin q z⟩
          · rcases mec0.2.2 with hf | ⟨hf, hg⟩
            · refine Con.mk (by decide) ?_
              show RT _ _ 0 [some (.ref 0), some (.int (nI 0))] [] _ _
              refine r_aload_0 dX7_leak_0 ?_
              refine r_cV0 mX7_hasText dX7_leak_1 ml_X7_101 mo_X7_hasText rfl (k_hasText hb.1 i3.1) (by decide) ?_
              rw [b2i_t hJ]
              refine r_if_eq 16 dX7_leak_4 (by decide) (fun c_4 => by exact absurd c_4 (by decide)) (fun c_4 => ?_)
              refine r_iload_1 dX7_leak_7 ?_
              refine r_if_lt 16 dX7_leak_8 (by decide) (fun c_8 => by exact absurd c_8 (by decide)) (fun c_8 => ?_)
              refine r_iload_1 dX7_leak_11 ?_
              refine r_iconst (v := 2) dX7_leak_12 (by decide) ?_
              refine r_icmp_le 22 dX7_leak_13 (by decide) (fun c_13 => ?_) (fun c_13 => by exact absurd (by decide) c_13)
              refine r_aload_0 dX7_leak_22 ?_
              refine r_getR (a := 72) dX7_leak_23 fl_X7_54 rfl rfl ?_
              refine r_cV0 mX1_count dX7_leak_26 ml_X7_135 mo_X1_count rfl (k_count mec.1 n9) (by decide) ?_
              refine r_if_ne 38 dX7_leak_29 (by decide) (fun c_29 => ?_) (fun c_29 => by exact absurd c_29 hc)
              refine r_aload_0 dX7_leak_38 ?_
              refine r_cW0 mX7_allow dX7_leak_39 ml_X7_79 mo_X7_allow rfl (k_allow h) (by decide) ?_
              refine r_aload_0 dX7_leak_42 ?_
              refine r_getR (a := 72) dX7_leak_43 fl_X7_54 rfl rfl ?_
              refine r_getI dX7_leak_46 fl_X7_284 rfl ?_
              rw [hf]
              refine r_if_ne 56 dX7_leak_49 (by decide) (fun c_49 => by exact absurd rfl c_49) (fun c_49 => ?_)
              refine r_aload_0 dX7_leak_52 ?_
              refine r_cWQ0 mX7_findLeak dX7_leak_53 ml_X7_287 mo_X7_findLeak rfl (k_findLk tx mok nc0 mec0) (by decide) (fun h3 p3 => ?_)
              obtain ⟨f3, e3, e4, fr3⟩ := p3
              refine r_iload_1 dX7_leak_56 ?_
              refine r_look (x := nI 0) (off := 27) 84 dX7_leak_57 (by decide +kernel) (by decide +kernel) (by decide) ?_
              refine r_aload_0 dX7_leak_84 ?_
              refine r_getR (a := 72) dX7_leak_85 fl_X7_54 rfl rfl ?_
              refine r_getI dX7_leak_88 fl_X7_290 rfl ?_
              rw [f3.1]
              refine r_i2l dX7_leak_91 ?_
              refine r_lret dX7_leak_92 rfl ?_
              exact ⟨rfl, ld h3 fr3 e3 e4 f3⟩
            · have f3 := hg.resolve_left (fun q => hc (cn_none q))
              refine Con.mk (by decide) ?_
              show RT _ _ 0 [some (.ref 0), some (.int (nI 0))] [] _ _
              refine r_aload_0 dX7_leak_0 ?_
              refine r_cV0 mX7_hasText dX7_leak_1 ml_X7_101 mo_X7_hasText rfl (k_hasText hb.1 i3.1) (by decide) ?_
              rw [b2i_t hJ]
              refine r_if_eq 16 dX7_leak_4 (by decide) (fun c_4 => by exact absurd c_4 (by decide)) (fun c_4 => ?_)
              refine r_iload_1 dX7_leak_7 ?_
              refine r_if_lt 16 dX7_leak_8 (by decide) (fun c_8 => by exact absurd c_8 (by decide)) (fun c_8 => ?_)
              refine r_iload_1 dX7_leak_11 ?_
              refine r_iconst (v := 2) dX7_leak_12 (by decide) ?_
              refine r_icmp_le 22 dX7_leak_13 (by decide) (fun c_13 => ?_) (fun c_13 => by exact absurd (by decide) c_13)
              refine r_aload_0 dX7_leak_22 ?_
              refine r_getR (a := 72) dX7_leak_23 fl_X7_54 rfl rfl ?_
              refine r_cV0 mX1_count dX7_leak_26 ml_X7_135 mo_X1_count rfl (k_count mec.1 n9) (by decide) ?_
              refine r_if_ne 38 dX7_leak_29 (by decide) (fun c_29 => ?_) (fun c_29 => by exact absurd c_29 hc)
              refine r_aload_0 dX7_leak_38 ?_
              refine r_cW0 mX7_allow dX7_leak_39 ml_X7_79 mo_X7_allow rfl (k_allow h) (by decide) ?_
              refine r_aload_0 dX7_leak_42 ?_
              refine r_getR (a := 72) dX7_leak_43 fl_X7_54 rfl rfl ?_
              refine r_getI dX7_leak_46 fl_X7_284 rfl ?_
              rw [hf]
              refine r_if_ne 56 dX7_leak_49 (by decide) (fun c_49 => ?_) (fun c_49 => by exact absurd c_49 (by decide))
              refine r_iload_1 dX7_leak_56 ?_
              refine r_look (x := nI 0) (off := 27) 84 dX7_leak_57 (by decide +kernel) (by decide +kernel) (by decide) ?_
              refine r_aload_0 dX7_leak_84 ?_
              refine r_getR (a := 72) dX7_leak_85 fl_X7_54 rfl rfl ?_
              refine r_getI dX7_leak_88 fl_X7_290 rfl ?_
              rw [f3.1]
              refine r_i2l dX7_leak_91 ?_
              refine r_lret dX7_leak_92 rfl ?_
              exact ⟨rfl, ld _ Fr.rf rfl hf f3⟩
          · obtain ⟨-, -, m44, m46, -, mm⟩ := (i6.k q.2).rf 0
            obtain ⟨rwm, sm, nam, acm, mem⟩ := mm hJ
            refine Con.mk (by decide) ?_
            show RT _ _ 0 [some (.ref 74), some (.int (nI 0)), none, none, none, none, none, none, none, none, none] [] _ _
            refine r_aload_0 dX8_leak_0 ?_
            refine r_getI dX8_leak_1 fl_X8_229 rfl ?_
            rw [f6 q.2]
            refine r_if_le 23 dX8_leak_4 (by decide) (fun c_4 => by exact absurd c_4 (nI_nle hJ (by omega))) (fun c_4 => ?_)
            refine r_iload_1 dX8_leak_7 ?_
            refine r_i2l dX8_leak_8 ?_
            refine r_lconst (v := 0) dX8_leak_9 (by decide) ?_
            refine r_ldc2 dX8_leak_10 ks_X8_312 ?_
            refine r_cS3 mX8_in dX8_leak_13 ml_X8_131 mo_X8_in (q_in _ _ _ _) (by decide) ?_
            rw [b2i_c (in_w (a' := 0) (b' := 2) (by decide +kernel) (by decide +kernel)), b2i_t hx]
            refine r_if_eq 23 dX8_leak_16 (by decide) (fun c_16 => by exact absurd c_16 (by decide)) (fun c_16 => ?_)
            refine r_iconst (v := 1) dX8_leak_19 (by decide) ?_
            refine r_goto 24 dX8_leak_20 (by decide) ?_
            refine r_cS1 mX8_unless dX8_leak_24 ml_X8_330 mo_X8_unless (q_unless _ _) (by decide) ?_
            rw [un1]
            refine r_istore_2 dX8_leak_27 ?_
            refine r_aload_0 dX8_leak_28 ?_
            refine r_iload_2 dX8_leak_29 ?_
            refine r_if_eq 37 dX8_leak_30 (by decide) (fun c_30 => ?_) (fun c_30 => by exact absurd rfl c_30)
            refine r_aload_0 dX8_leak_37 ?_
            refine r_cV0 mX8_measuredMany dX8_leak_38 ml_X8_394 mo_X8_measuredMany rfl (q_many (me0 q.2)) (by decide) ?_
            refine r_if_ne 48 dX8_leak_41 (by decide) (fun c_41 => ?_) (fun c_41 => by exact absurd c_41 hc)
            refine r_iconst (v := 0) dX8_leak_48 (by decide) ?_
            refine r_cV1 mX8_isRefused dX8_leak_49 ml_X8_245 mo_X8_isRefused rfl (q_isRefused _ _) (by decide) ?_
            rw [b2i_f (by decide)]
            refine r_if_eq 59 dX8_leak_52 (by decide) (fun c_52 => ?_) (fun c_52 => by exact absurd rfl c_52)
            refine r_iconst (v := (-1)) dX8_leak_59 (by decide) ?_
            refine r_istore_3 dX8_leak_60 ?_
            refine r_iconst (v := 0) dX8_leak_61 (by decide) ?_
            refine r_istore_4 dX8_leak_62 ?_
            refine r_lconst (v := 0) dX8_leak_64 (by decide) ?_
            refine r_lstore_5 dX8_leak_65 ?_
            refine r_iconst (v := nI 1) dX8_leak_67 (by decide) ?_
            refine r_istore_7 dX8_leak_68 ?_
            refine RT.sub (lv' := [some (.ref 74), some (.int (nI 0)), none, some (.int (atV none)), some (.int (muV none)), some (.long (leV none)), none, some (.int (nI 1)), none, none, none]) (by simp [lsub, atV, muV, leV]) ?_
            refine mlk_out tx _ (NT.J t - 1) 1 none _ (by omega) (fun x q => by cases q) rwm m46 mem FM.rf (fun h3 r3 e3 f3 => ?_)
            rw [lkS_s hJ1]
            refine r_aload_0 dX8_leak_135 ?_
            refine r_cWQ0 mX8_solvesAgain dX8_leak_136 ml_X8_435 mo_X8_solvesAgain rfl (q_again tx r3 e3) (by decide) (fun h4 p4 => ?_)
            obtain ⟨s4, e4, e5, f4⟩ := p4
            refine r_iload_1 dX8_leak_139 ?_
            refine r_if_ne 148 dX8_leak_140 (by decide) (fun c_140 => by exact absurd rfl c_140) (fun c_140 => ?_)
            refine r_iload_3 dX8_leak_143 ?_
            refine r_i2l dX8_leak_144 ?_
            refine r_goto 161 dX8_leak_145 (by decide) ?_
            refine r_lret dX8_leak_161 rfl ?_
            exact ⟨rfl, s4, e4, e5, f3.tr f4⟩
        · refine ⟨.long (nI (lkS t ms).2.1).toInt64, fun h1 => (CX h1 t nm ac ms ∧ h1.1 0 = (clH h 0).1 0 ∧ h1.1 1 = h.1 1) ∧ kM h h1, fun h1 h2 => SolM h2 t (solveS (snOf t)) ∧ h2.1 74 44 = -1 ∧ h2.1 74 46 = 100 ∧ FM slS slG (rfH h1 0) h2, ?_, fun h1 q => ?_, fun h1 h2 q z => fin q z⟩
          · rcases mec0.2.2 with hf | ⟨hf, hg⟩
            · refine Con.mk (by decide) ?_
              show RT _ _ 0 [some (.ref 0), some (.int (nI 1))] [] _ _
              refine r_aload_0 dX7_leak_0 ?_
              refine r_cV0 mX7_hasText dX7_leak_1 ml_X7_101 mo_X7_hasText rfl (k_hasText hb.1 i3.1) (by decide) ?_
              rw [b2i_t hJ]
              refine r_if_eq 16 dX7_leak_4 (by decide) (fun c_4 => by exact absurd c_4 (by decide)) (fun c_4 => ?_)
              refine r_iload_1 dX7_leak_7 ?_
              refine r_if_lt 16 dX7_leak_8 (by decide) (fun c_8 => by exact absurd c_8 (by decide)) (fun c_8 => ?_)
              refine r_iload_1 dX7_leak_11 ?_
              refine r_iconst (v := 2) dX7_leak_12 (by decide) ?_
              refine r_icmp_le 22 dX7_leak_13 (by decide) (fun c_13 => ?_) (fun c_13 => by exact absurd (by decide) c_13)
              refine r_aload_0 dX7_leak_22 ?_
              refine r_getR (a := 72) dX7_leak_23 fl_X7_54 rfl rfl ?_
              refine r_cV0 mX1_count dX7_leak_26 ml_X7_135 mo_X1_count rfl (k_count mec.1 n9) (by decide) ?_
              refine r_if_ne 38 dX7_leak_29 (by decide) (fun c_29 => ?_) (fun c_29 => by exact absurd c_29 hc)
              refine r_aload_0 dX7_leak_38 ?_
              refine r_cW0 mX7_allow dX7_leak_39 ml_X7_79 mo_X7_allow rfl (k_allow h) (by decide) ?_
              refine r_aload_0 dX7_leak_42 ?_
              refine r_getR (a := 72) dX7_leak_43 fl_X7_54 rfl rfl ?_
              refine r_getI dX7_leak_46 fl_X7_284 rfl ?_
              rw [hf]
              refine r_if_ne 56 dX7_leak_49 (by decide) (fun c_49 => by exact absurd rfl c_49) (fun c_49 => ?_)
              refine r_aload_0 dX7_leak_52 ?_
              refine r_cWQ0 mX7_findLeak dX7_leak_53 ml_X7_287 mo_X7_findLeak rfl (k_findLk tx mok nc0 mec0) (by decide) (fun h3 p3 => ?_)
              obtain ⟨f3, e3, e4, fr3⟩ := p3
              refine r_iload_1 dX7_leak_56 ?_
              refine r_look (x := nI 1) (off := 36) 93 dX7_leak_57 (by decide +kernel) (by decide +kernel) (by decide) ?_
              refine r_aload_0 dX7_leak_93 ?_
              refine r_getR (a := 72) dX7_leak_94 fl_X7_54 rfl rfl ?_
              refine r_getI dX7_leak_97 fl_X7_293 rfl ?_
              rw [f3.2.1]
              refine r_i2l dX7_leak_100 ?_
              refine r_lret dX7_leak_101 rfl ?_
              exact ⟨rfl, ld h3 fr3 e3 e4 f3⟩
            · have f3 := hg.resolve_left (fun q => hc (cn_none q))
              refine Con.mk (by decide) ?_
              show RT _ _ 0 [some (.ref 0), some (.int (nI 1))] [] _ _
              refine r_aload_0 dX7_leak_0 ?_
              refine r_cV0 mX7_hasText dX7_leak_1 ml_X7_101 mo_X7_hasText rfl (k_hasText hb.1 i3.1) (by decide) ?_
              rw [b2i_t hJ]
              refine r_if_eq 16 dX7_leak_4 (by decide) (fun c_4 => by exact absurd c_4 (by decide)) (fun c_4 => ?_)
              refine r_iload_1 dX7_leak_7 ?_
              refine r_if_lt 16 dX7_leak_8 (by decide) (fun c_8 => by exact absurd c_8 (by decide)) (fun c_8 => ?_)
              refine r_iload_1 dX7_leak_11 ?_
              refine r_iconst (v := 2) dX7_leak_12 (by decide) ?_
              refine r_icmp_le 22 dX7_leak_13 (by decide) (fun c_13 => ?_) (fun c_13 => by exact absurd (by decide) c_13)
              refine r_aload_0 dX7_leak_22 ?_
              refine r_getR (a := 72) dX7_leak_23 fl_X7_54 rfl rfl ?_
              refine r_cV0 mX1_count dX7_leak_26 ml_X7_135 mo_X1_count rfl (k_count mec.1 n9) (by decide) ?_
              refine r_if_ne 38 dX7_leak_29 (by decide) (fun c_29 => ?_) (fun c_29 => by exact absurd c_29 hc)
              refine r_aload_0 dX7_leak_38 ?_
              refine r_cW0 mX7_allow dX7_leak_39 ml_X7_79 mo_X7_allow rfl (k_allow h) (by decide) ?_
              refine r_aload_0 dX7_leak_42 ?_
              refine r_getR (a := 72) dX7_leak_43 fl_X7_54 rfl rfl ?_
              refine r_getI dX7_leak_46 fl_X7_284 rfl ?_
              rw [hf]
              refine r_if_ne 56 dX7_leak_49 (by decide) (fun c_49 => ?_) (fun c_49 => by exact absurd c_49 (by decide))
              refine r_iload_1 dX7_leak_56 ?_
              refine r_look (x := nI 1) (off := 36) 93 dX7_leak_57 (by decide +kernel) (by decide +kernel) (by decide) ?_
              refine r_aload_0 dX7_leak_93 ?_
              refine r_getR (a := 72) dX7_leak_94 fl_X7_54 rfl rfl ?_
              refine r_getI dX7_leak_97 fl_X7_293 rfl ?_
              rw [f3.2.1]
              refine r_i2l dX7_leak_100 ?_
              refine r_lret dX7_leak_101 rfl ?_
              exact ⟨rfl, ld _ Fr.rf rfl hf f3⟩
          · obtain ⟨-, -, m44, m46, -, mm⟩ := (i6.k q.2).rf 0
            obtain ⟨rwm, sm, nam, acm, mem⟩ := mm hJ
            refine Con.mk (by decide) ?_
            show RT _ _ 0 [some (.ref 74), some (.int (nI 1)), none, none, none, none, none, none, none, none, none] [] _ _
            refine r_aload_0 dX8_leak_0 ?_
            refine r_getI dX8_leak_1 fl_X8_229 rfl ?_
            rw [f6 q.2]
            refine r_if_le 23 dX8_leak_4 (by decide) (fun c_4 => by exact absurd c_4 (nI_nle hJ (by omega))) (fun c_4 => ?_)
            refine r_iload_1 dX8_leak_7 ?_
            refine r_i2l dX8_leak_8 ?_
            refine r_lconst (v := 0) dX8_leak_9 (by decide) ?_
            refine r_ldc2 dX8_leak_10 ks_X8_312 ?_
            refine r_cS3 mX8_in dX8_leak_13 ml_X8_131 mo_X8_in (q_in _ _ _ _) (by decide) ?_
            rw [b2i_c (in_w (a' := 0) (b' := 2) (by decide +kernel) (by decide +kernel)), b2i_t hx]
            refine r_if_eq 23 dX8_leak_16 (by decide) (fun c_16 => by exact absurd c_16 (by decide)) (fun c_16 => ?_)
            refine r_iconst (v := 1) dX8_leak_19 (by decide) ?_
            refine r_goto 24 dX8_leak_20 (by decide) ?_
            refine r_cS1 mX8_unless dX8_leak_24 ml_X8_330 mo_X8_unless (q_unless _ _) (by decide) ?_
            rw [un1]
            refine r_istore_2 dX8_leak_27 ?_
            refine r_aload_0 dX8_leak_28 ?_
            refine r_iload_2 dX8_leak_29 ?_
            refine r_if_eq 37 dX8_leak_30 (by decide) (fun c_30 => ?_) (fun c_30 => by exact absurd rfl c_30)
            refine r_aload_0 dX8_leak_37 ?_
            refine r_cV0 mX8_measuredMany dX8_leak_38 ml_X8_394 mo_X8_measuredMany rfl (q_many (me0 q.2)) (by decide) ?_
            refine r_if_ne 48 dX8_leak_41 (by decide) (fun c_41 => ?_) (fun c_41 => by exact absurd c_41 hc)
            refine r_iconst (v := 0) dX8_leak_48 (by decide) ?_
            refine r_cV1 mX8_isRefused dX8_leak_49 ml_X8_245 mo_X8_isRefused rfl (q_isRefused _ _) (by decide) ?_
            rw [b2i_f (by decide)]
            refine r_if_eq 59 dX8_leak_52 (by decide) (fun c_52 => ?_) (fun c_52 => by exact absurd rfl c_52)
            refine r_iconst (v := (-1)) dX8_leak_59 (by decide) ?_
            refine r_istore_3 dX8_leak_60 ?_
            refine r_iconst (v := 0) dX8_leak_61 (by decide) ?_
            refine r_istore_4 dX8_leak_62 ?_
            refine r_lconst (v := 0) dX8_leak_64 (by decide) ?_
            refine r_lstore_5 dX8_leak_65 ?_
            refine r_iconst (v := nI 1) dX8_leak_67 (by decide) ?_
            refine r_istore_7 dX8_leak_68 ?_
            refine RT.sub (lv' := [some (.ref 74), some (.int (nI 1)), none, some (.int (atV none)), some (.int (muV none)), some (.long (leV none)), none, some (.int (nI 1)), none, none, none]) (by simp [lsub, atV, muV, leV]) ?_
            refine mlk_out tx _ (NT.J t - 1) 1 none _ (by omega) (fun x q => by cases q) rwm m46 mem FM.rf (fun h3 r3 e3 f3 => ?_)
            rw [lkS_s hJ1]
            refine r_aload_0 dX8_leak_135 ?_
            refine r_cWQ0 mX8_solvesAgain dX8_leak_136 ml_X8_435 mo_X8_solvesAgain rfl (q_again tx r3 e3) (by decide) (fun h4 p4 => ?_)
            obtain ⟨s4, e4, e5, f4⟩ := p4
            refine r_iload_1 dX8_leak_139 ?_
            refine r_if_ne 148 dX8_leak_140 (by decide) (fun c_140 => ?_) (fun c_140 => by exact absurd c_140 (by decide))
            refine r_iload_1 dX8_leak_148 ?_
            refine r_iconst (v := 1) dX8_leak_149 (by decide) ?_
            refine r_icmp_ne 159 dX8_leak_150 (by decide) (fun c_150 => by exact absurd rfl c_150) (fun c_150 => ?_)
            refine r_iload_4 dX8_leak_153 ?_
            refine r_i2l dX8_leak_155 ?_
            refine r_goto 161 dX8_leak_156 (by decide) ?_
            refine r_lret dX8_leak_161 rfl ?_
            exact ⟨rfl, s4, e4, e5, f3.tr f4⟩
        · refine ⟨.long (lkS t ms).2.2, fun h1 => (CX h1 t nm ac ms ∧ h1.1 0 = (clH h 0).1 0 ∧ h1.1 1 = h.1 1) ∧ kM h h1, fun h1 h2 => SolM h2 t (solveS (snOf t)) ∧ h2.1 74 44 = -1 ∧ h2.1 74 46 = 100 ∧ FM slS slG (rfH h1 0) h2, ?_, fun h1 q => ?_, fun h1 h2 q z => fin q z⟩
          · rcases mec0.2.2 with hf | ⟨hf, hg⟩
            · refine Con.mk (by decide) ?_
              show RT _ _ 0 [some (.ref 0), some (.int (nI 2))] [] _ _
              refine r_aload_0 dX7_leak_0 ?_
              refine r_cV0 mX7_hasText dX7_leak_1 ml_X7_101 mo_X7_hasText rfl (k_hasText hb.1 i3.1) (by decide) ?_
              rw [b2i_t hJ]
              refine r_if_eq 16 dX7_leak_4 (by decide) (fun c_4 => by exact absurd c_4 (by decide)) (fun c_4 => ?_)
              refine r_iload_1 dX7_leak_7 ?_
              refine r_if_lt 16 dX7_leak_8 (by decide) (fun c_8 => by exact absurd c_8 (by decide)) (fun c_8 => ?_)
              refine r_iload_1 dX7_leak_11 ?_
              refine r_iconst (v := 2) dX7_leak_12 (by decide) ?_
              refine r_icmp_le 22 dX7_leak_13 (by decide) (fun c_13 => ?_) (fun c_13 => by exact absurd (by decide) c_13)
              refine r_aload_0 dX7_leak_22 ?_
              refine r_getR (a := 72) dX7_leak_23 fl_X7_54 rfl rfl ?_
              refine r_cV0 mX1_count dX7_leak_26 ml_X7_135 mo_X1_count rfl (k_count mec.1 n9) (by decide) ?_
              refine r_if_ne 38 dX7_leak_29 (by decide) (fun c_29 => ?_) (fun c_29 => by exact absurd c_29 hc)
              refine r_aload_0 dX7_leak_38 ?_
              refine r_cW0 mX7_allow dX7_leak_39 ml_X7_79 mo_X7_allow rfl (k_allow h) (by decide) ?_
              refine r_aload_0 dX7_leak_42 ?_
              refine r_getR (a := 72) dX7_leak_43 fl_X7_54 rfl rfl ?_
              refine r_getI dX7_leak_46 fl_X7_284 rfl ?_
              rw [hf]
              refine r_if_ne 56 dX7_leak_49 (by decide) (fun c_49 => by exact absurd rfl c_49) (fun c_49 => ?_)
              refine r_aload_0 dX7_leak_52 ?_
              refine r_cWQ0 mX7_findLeak dX7_leak_53 ml_X7_287 mo_X7_findLeak rfl (k_findLk tx mok nc0 mec0) (by decide) (fun h3 p3 => ?_)
              obtain ⟨f3, e3, e4, fr3⟩ := p3
              refine r_iload_1 dX7_leak_56 ?_
              refine r_look (x := nI 2) (off := 45) 102 dX7_leak_57 (by decide +kernel) (by decide +kernel) (by decide) ?_
              refine r_aload_0 dX7_leak_102 ?_
              refine r_getR (a := 72) dX7_leak_103 fl_X7_54 rfl rfl ?_
              refine r_getL dX7_leak_106 fl_X7_296 rfl ?_
              rw [f3.2.2]
              refine r_lret dX7_leak_109 rfl ?_
              exact ⟨rfl, ld h3 fr3 e3 e4 f3⟩
            · have f3 := hg.resolve_left (fun q => hc (cn_none q))
              refine Con.mk (by decide) ?_
              show RT _ _ 0 [some (.ref 0), some (.int (nI 2))] [] _ _
              refine r_aload_0 dX7_leak_0 ?_
              refine r_cV0 mX7_hasText dX7_leak_1 ml_X7_101 mo_X7_hasText rfl (k_hasText hb.1 i3.1) (by decide) ?_
              rw [b2i_t hJ]
              refine r_if_eq 16 dX7_leak_4 (by decide) (fun c_4 => by exact absurd c_4 (by decide)) (fun c_4 => ?_)
              refine r_iload_1 dX7_leak_7 ?_
              refine r_if_lt 16 dX7_leak_8 (by decide) (fun c_8 => by exact absurd c_8 (by decide)) (fun c_8 => ?_)
              refine r_iload_1 dX7_leak_11 ?_
              refine r_iconst (v := 2) dX7_leak_12 (by decide) ?_
              refine r_icmp_le 22 dX7_leak_13 (by decide) (fun c_13 => ?_) (fun c_13 => by exact absurd (by decide) c_13)
              refine r_aload_0 dX7_leak_22 ?_
              refine r_getR (a := 72) dX7_leak_23 fl_X7_54 rfl rfl ?_
              refine r_cV0 mX1_count dX7_leak_26 ml_X7_135 mo_X1_count rfl (k_count mec.1 n9) (by decide) ?_
              refine r_if_ne 38 dX7_leak_29 (by decide) (fun c_29 => ?_) (fun c_29 => by exact absurd c_29 hc)
              refine r_aload_0 dX7_leak_38 ?_
              refine r_cW0 mX7_allow dX7_leak_39 ml_X7_79 mo_X7_allow rfl (k_allow h) (by decide) ?_
              refine r_aload_0 dX7_leak_42 ?_
              refine r_getR (a := 72) dX7_leak_43 fl_X7_54 rfl rfl ?_
              refine r_getI dX7_leak_46 fl_X7_284 rfl ?_
              rw [hf]
              refine r_if_ne 56 dX7_leak_49 (by decide) (fun c_49 => ?_) (fun c_49 => by exact absurd c_49 (by decide))
              refine r_iload_1 dX7_leak_56 ?_
              refine r_look (x := nI 2) (off := 45) 102 dX7_leak_57 (by decide +kernel) (by decide +kernel) (by decide) ?_
              refine r_aload_0 dX7_leak_102 ?_
              refine r_getR (a := 72) dX7_leak_103 fl_X7_54 rfl rfl ?_
              refine r_getL dX7_leak_106 fl_X7_296 rfl ?_
              rw [f3.2.2]
              refine r_lret dX7_leak_109 rfl ?_
              exact ⟨rfl, ld _ Fr.rf rfl hf f3⟩
          · obtain ⟨-, -, m44, m46, -, mm⟩ := (i6.k q.2).rf 0
            obtain ⟨rwm, sm, nam, acm, mem⟩ := mm hJ
            refine Con.mk (by decide) ?_
            show RT _ _ 0 [some (.ref 74), some (.int (nI 2)), none, none, none, none, none, none, none, none, none] [] _ _
            refine r_aload_0 dX8_leak_0 ?_
            refine r_getI dX8_leak_1 fl_X8_229 rfl ?_
            rw [f6 q.2]
            refine r_if_le 23 dX8_leak_4 (by decide) (fun c_4 => by exact absurd c_4 (nI_nle hJ (by omega))) (fun c_4 => ?_)
            refine r_iload_1 dX8_leak_7 ?_
            refine r_i2l dX8_leak_8 ?_
            refine r_lconst (v := 0) dX8_leak_9 (by decide) ?_
            refine r_ldc2 dX8_leak_10 ks_X8_312 ?_
            refine r_cS3 mX8_in dX8_leak_13 ml_X8_131 mo_X8_in (q_in _ _ _ _) (by decide) ?_
            rw [b2i_c (in_w (a' := 0) (b' := 2) (by decide +kernel) (by decide +kernel)), b2i_t hx]
            refine r_if_eq 23 dX8_leak_16 (by decide) (fun c_16 => by exact absurd c_16 (by decide)) (fun c_16 => ?_)
            refine r_iconst (v := 1) dX8_leak_19 (by decide) ?_
            refine r_goto 24 dX8_leak_20 (by decide) ?_
            refine r_cS1 mX8_unless dX8_leak_24 ml_X8_330 mo_X8_unless (q_unless _ _) (by decide) ?_
            rw [un1]
            refine r_istore_2 dX8_leak_27 ?_
            refine r_aload_0 dX8_leak_28 ?_
            refine r_iload_2 dX8_leak_29 ?_
            refine r_if_eq 37 dX8_leak_30 (by decide) (fun c_30 => ?_) (fun c_30 => by exact absurd rfl c_30)
            refine r_aload_0 dX8_leak_37 ?_
            refine r_cV0 mX8_measuredMany dX8_leak_38 ml_X8_394 mo_X8_measuredMany rfl (q_many (me0 q.2)) (by decide) ?_
            refine r_if_ne 48 dX8_leak_41 (by decide) (fun c_41 => ?_) (fun c_41 => by exact absurd c_41 hc)
            refine r_iconst (v := 0) dX8_leak_48 (by decide) ?_
            refine r_cV1 mX8_isRefused dX8_leak_49 ml_X8_245 mo_X8_isRefused rfl (q_isRefused _ _) (by decide) ?_
            rw [b2i_f (by decide)]
            refine r_if_eq 59 dX8_leak_52 (by decide) (fun c_52 => ?_) (fun c_52 => by exact absurd rfl c_52)
            refine r_iconst (v := (-1)) dX8_leak_59 (by decide) ?_
            refine r_istore_3 dX8_leak_60 ?_
            refine r_iconst (v := 0) dX8_leak_61 (by decide) ?_
            refine r_istore_4 dX8_leak_62 ?_
            refine r_lconst (v := 0) dX8_leak_64 (by decide) ?_
            refine r_lstore_5 dX8_leak_65 ?_
            refine r_iconst (v := nI 1) dX8_leak_67 (by decide) ?_
            refine r_istore_7 dX8_leak_68 ?_
            refine RT.sub (lv' := [some (.ref 74), some (.int (nI 2)), none, some (.int (atV none)), some (.int (muV none)), some (.long (leV none)), none, some (.int (nI 1)), none, none, none]) (by simp [lsub, atV, muV, leV]) ?_
            refine mlk_out tx _ (NT.J t - 1) 1 none _ (by omega) (fun x q => by cases q) rwm m46 mem FM.rf (fun h3 r3 e3 f3 => ?_)
            rw [lkS_s hJ1]
            refine r_aload_0 dX8_leak_135 ?_
            refine r_cWQ0 mX8_solvesAgain dX8_leak_136 ml_X8_435 mo_X8_solvesAgain rfl (q_again tx r3 e3) (by decide) (fun h4 p4 => ?_)
            obtain ⟨s4, e4, e5, f4⟩ := p4
            refine r_iload_1 dX8_leak_139 ?_
            refine r_if_ne 148 dX8_leak_140 (by decide) (fun c_140 => ?_) (fun c_140 => by exact absurd c_140 (by decide))
            refine r_iload_1 dX8_leak_148 ?_
            refine r_iconst (v := 1) dX8_leak_149 (by decide) ?_
            refine r_icmp_ne 159 dX8_leak_150 (by decide) (fun c_150 => ?_) (fun c_150 => by exact absurd c_150 (by decide))
            refine r_lload_5 dX8_leak_159 ?_
            refine r_lret dX8_leak_161 rfl ?_
            exact ⟨rfl, s4, e4, e5, f3.tr f4⟩
    · refine Same.to2 i0 ⟨.long (-9223372036854775808), 1, by decide, ?_, ?_⟩
      · refine Con.mk (by decide) ?_
        show RT _ _ 0 [some (.ref 0), some (.int x)] [] _ _
        refine r_aload_0 dX7_leak_0 ?_
        refine r_cV0 mX7_hasText dX7_leak_1 ml_X7_101 mo_X7_hasText rfl (k_hasText hb.1 i3.1) (by decide) ?_
        rw [b2i_t hJ]
        refine r_if_eq 16 dX7_leak_4 (by decide) (fun c_4 => by exact absurd c_4 (by decide)) (fun c_4 => ?_)
        refine r_iload_1 dX7_leak_7 ?_
        refine r_if_lt 16 dX7_leak_8 (by decide) (fun c_8 => ?_) (fun c_8 => ?_)
        · refine r_aload_0 dX7_leak_16 ?_
          refine r_iconst (v := 1) dX7_leak_17 (by decide) ?_
          refine r_cV1 mX7_refuseLong dX7_leak_18 ml_X7_171 mo_X7_refuseLong rfl (k_refuseL h 1) (by decide) ?_
          refine r_lret dX7_leak_21 rfl ?_
          exact ⟨rfl, rfl⟩
        · refine r_iload_1 dX7_leak_11 ?_
          refine r_iconst (v := 2) dX7_leak_12 (by decide) ?_
          refine r_icmp_le 22 dX7_leak_13 (by decide) (fun c_13 => ?_) (fun c_13 => ?_)
          · exact absurd ⟨ge_of_nlt c_8, c_13⟩ hx
          · refine r_aload_0 dX7_leak_16 ?_
            refine r_iconst (v := 1) dX7_leak_17 (by decide) ?_
            refine r_cV1 mX7_refuseLong dX7_leak_18 ml_X7_171 mo_X7_refuseLong rfl (k_refuseL h 1) (by decide) ?_
            refine r_lret dX7_leak_21 rfl ?_
            exact ⟨rfl, rfl⟩
      · refine Con.mk (by decide) ?_
        show RT _ _ 0 [some (.ref 74), some (.int x), none, none, none, none, none, none, none, none, none] [] _ _
        refine r_aload_0 dX8_leak_0 ?_
        refine r_getI dX8_leak_1 fl_X8_229 rfl ?_
        rw [f6 clH_kM]
        refine r_if_le 23 dX8_leak_4 (by decide) (fun c_4 => by exact absurd c_4 (nI_nle hJ (by omega))) (fun c_4 => ?_)
        refine r_iload_1 dX8_leak_7 ?_
        refine r_i2l dX8_leak_8 ?_
        refine r_lconst (v := 0) dX8_leak_9 (by decide) ?_
        refine r_ldc2 dX8_leak_10 ks_X8_312 ?_
        refine r_cS3 mX8_in dX8_leak_13 ml_X8_131 mo_X8_in (q_in _ _ _ _) (by decide) ?_
        rw [b2i_c (in_w (a' := 0) (b' := 2) (by decide +kernel) (by decide +kernel)), b2i_f hx]
        refine r_if_eq 23 dX8_leak_16 (by decide) (fun c_16 => ?_) (fun c_16 => by exact absurd rfl c_16)
        refine r_iconst (v := 0) dX8_leak_23 (by decide) ?_
        refine r_cS1 mX8_unless dX8_leak_24 ml_X8_330 mo_X8_unless (q_unless _ _) (by decide) ?_
        rw [un0]
        refine r_istore_2 dX8_leak_27 ?_
        refine r_aload_0 dX8_leak_28 ?_
        refine r_iload_2 dX8_leak_29 ?_
        refine r_if_eq 37 dX8_leak_30 (by decide) (fun c_30 => by exact absurd c_30 (by decide)) (fun c_30 => ?_)
        refine r_iload_2 dX8_leak_33 ?_
        refine r_goto 49 dX8_leak_34 (by decide) ?_
        refine r_cV1 mX8_isRefused dX8_leak_49 ml_X8_245 mo_X8_isRefused rfl (q_isRefused _ _) (by decide) ?_
        rw [b2i_t (by decide)]
        refine r_if_eq 59 dX8_leak_52 (by decide) (fun c_52 => by exact absurd c_52 (by decide)) (fun c_52 => ?_)
        refine r_ldc2 dX8_leak_55 ks_X8_102 ?_
        refine r_lret dX8_leak_58 rfl ?_
        exact ⟨rfl, rfl⟩
  · have hJ0 : NT.J t = 0 := by omega
    refine Same.to2 i0 ⟨.long (-9223372036854775808), 1, by decide, ?_, ?_⟩
    · refine Con.mk (by decide) ?_
      show RT _ _ 0 [some (.ref 0), some (.int x)] [] _ _
      refine r_aload_0 dX7_leak_0 ?_
      refine r_cV0 mX7_hasText dX7_leak_1 ml_X7_101 mo_X7_hasText rfl (k_hasText hb.1 i3.1) (by decide) ?_
      rw [b2i_f hJ]
      refine r_if_eq 16 dX7_leak_4 (by decide) (fun c_4 => ?_) (fun c_4 => by exact absurd rfl c_4)
      refine r_aload_0 dX7_leak_16 ?_
      refine r_iconst (v := 1) dX7_leak_17 (by decide) ?_
      refine r_cV1 mX7_refuseLong dX7_leak_18 ml_X7_171 mo_X7_refuseLong rfl (k_refuseL h 1) (by decide) ?_
      refine r_lret dX7_leak_21 rfl ?_
      exact ⟨rfl, rfl⟩
    · refine Con.mk (by decide) ?_
      show RT _ _ 0 [some (.ref 74), some (.int x), none, none, none, none, none, none, none, none, none] [] _ _
      refine r_aload_0 dX8_leak_0 ?_
      refine r_getI dX8_leak_1 fl_X8_229 rfl ?_
      rw [f6 clH_kM, hJ0]
      refine r_if_le 23 dX8_leak_4 (by decide) (fun c_4 => ?_) (fun c_4 => by exact absurd (show nI 0 ≤ 0 by decide) c_4)
      refine r_iconst (v := 0) dX8_leak_23 (by decide) ?_
      refine r_cS1 mX8_unless dX8_leak_24 ml_X8_330 mo_X8_unless (q_unless _ _) (by decide) ?_
      rw [un0]
      refine r_istore_2 dX8_leak_27 ?_
      refine r_aload_0 dX8_leak_28 ?_
      refine r_iload_2 dX8_leak_29 ?_
      refine r_if_eq 37 dX8_leak_30 (by decide) (fun c_30 => by exact absurd c_30 (by decide)) (fun c_30 => ?_)
      refine r_iload_2 dX8_leak_33 ?_
      refine r_goto 49 dX8_leak_34 (by decide) ?_
      refine r_cV1 mX8_isRefused dX8_leak_49 ml_X8_245 mo_X8_isRefused rfl (q_isRefused _ _) (by decide) ?_
      rw [b2i_t (by decide)]
      refine r_if_eq 59 dX8_leak_52 (by decide) (fun c_52 => by exact absurd c_52 (by decide)) (fun c_52 => ?_)
      refine r_ldc2 dX8_leak_55 ks_X8_102 ?_
      refine r_lret dX8_leak_58 rfl ?_
      exact ⟨rfl, rfl⟩

