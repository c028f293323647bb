/-! ===== both: early ===== -/
theorem ex_le {x : Int32} {k : Nat} (hk : k < 2 ^ 30) (h : 0 ≤ x ∧ x ≤ nI k) : ∃ m, m ≤ k ∧ x = nI m := by
  obtain ⟨h0, h1⟩ := h
  obtain ⟨m, hm, rfl⟩ := ex_pos h0
  rw [fa_le, nI_toInt hm, nI_toInt (by omega)] at h1
  exact ⟨m, by omega, rfl⟩
theorem isW41 : isW 41 := Or.inr rfl
theorem cp_pap {x : Nat} (h : cpR 42 x) : pap x := ⟨by have := h.1; omega, by have := h.2; omega⟩
theorem rg_pap {x : Nat} (h : rgW 41 x) : pap x := by
  rcases h with h | h
  · exact ⟨by omega, by omega⟩
  · exact ⟨by omega, by omega⟩
set_option maxRecDepth 100000 in
set_option maxHeartbeats 4000000 in
theorem o_early {h : PH} (i : INV h) (x n : Int32) : Same2 mX7_early 6 [.ref 0, .int x, .int n] mX8_early 7 [.ref 74, .int x, .int n] h := by
  have i0 := i
  obtain ⟨n0, bs, tr, fl, wp, t, nm, ac, ms, i1, i2, i3, i4, i5, i6⟩ := i
  have hb := i3.e
  have f7 : ∀ {h1 : PH} {y : Int32}, PC h y h1 → h1.1 74 7 = nI (NT.E t) := fun p => by rw [(p.kM 74 (by omega)).1]; exact i6.2.1
  have pr : ∀ y, PC h y (clH h y) := fun y => Fr.rf
  by_cases hx : 0 ≤ x ∧ x < nI (NT.E t)
  · by_cases hn : (0 : Int32) ≤ n ∧ n ≤ 60
    · obtain ⟨e, he, rfl⟩ := ex_nat hb.2 hx
      obtain ⟨m, hm, rfl⟩ := ex_le (k := 60) (by decide) hn
      have hJ : 0 < NT.J t := i3.je he
      obtain ⟨tx, nok, mok, sc, nac, acc, mec⟩ := (i3.k (clH_kC (x := 0))).2.2.2 hJ
      have ok := tx.1
      have hE14 := ok.2.2.1
      have nc : NetC (clH h 0) 15 t := sc.1
      refine ⟨.long ((flS (snOf t) 0 m).1 e), PC h 0, fun h1 h2 => SolM h2 t (solveS (snOf t)) ∧ FM slS slF (rfH h1 0) h2, ?_, fun h1 p => ?_, fun h1 h2 p q => inv_paper i1 i2 i3 i4 i5 (by decide) p q.2 (MX.fm ((i6.k p.kM).rf 0) q.1 q.2 hJ)⟩
      · refine Con.mk (by decide) ?_
        show RT _ _ 0 [some (.ref 0), some (.int (nI e)), some (.int (nI m))] [] _ _
        refine r_aload_0 dX7_early_0 ?_
        refine r_getR (a := 15) dX7_early_1 fl_X7_37 rfl rfl ?_
        refine r_iload_1 dX7_early_4 ?_
        refine r_cV1 mX2_hasEdge dX7_early_5 ml_X7_137 mo_X2_hasEdge rfl (k_X2_hasEdge isN15 h (nI e)) (by decide) ?_
        rw [i3.2.1, b2i_t hx]
        refine r_if_ne 17 dX7_early_8 (by decide) (fun c_8 => ?_) (fun c_8 => by exact absurd c_8 (by decide))
        refine r_iload_2 dX7_early_17 ?_
        refine r_if_lt 27 dX7_early_18 (by decide) (fun c_18 => by exact absurd c_18 (nI_pos (by omega))) (fun c_18 => ?_)
        refine r_iload_2 dX7_early_21 ?_
        refine r_bipush (v := nI 60) dX7_early_22 (by decide) ?_
        refine r_icmpN_le 33 dX7_early_24 (by decide) (by omega) (by omega) (fun c_24 => ?_) (fun c_24 => by omega)
        refine r_aload_0 dX7_early_33 ?_
        refine r_cW0 mX7_allow dX7_early_34 ml_X7_79 mo_X7_allow rfl (k_allow h) (by decide) ?_
        refine r_aload_0 dX7_early_37 ?_
        refine r_getR (a := 42) dX7_early_38 fl_X7_41 rfl rfl ?_
        refine r_aload_0 dX7_early_41 ?_
        refine r_getR (a := 15) dX7_early_42 fl_X7_37 rfl rfl ?_
        refine r_cWQ1 mX2_copyFrom dX7_early_45 ml_X7_83 mo_X2_copyFrom rfl (k_copy_42_15 (clH h 0)) (by decide) (fun h2 p2 => ?_)
        have nc2 : NetC h2 42 t := p2.net ok nc
        refine r_aload_0 dX7_early_48 ?_
        refine r_getR (a := 41) dX7_early_49 fl_X7_38 rfl rfl ?_
        refine r_iload_2 dX7_early_52 ?_
        refine r_cWQ1 mX6_sweepFirstRound dX7_early_53 ml_X7_222 mo_X6_sweepFirstRound rfl (k_firstRound isW41 ok hm nc2) (by decide) (fun h3 p3 => ?_)
        obtain ⟨-, -, fl3, f3⟩ := p3
        refine r_aload_0 dX7_early_56 ?_
        refine r_getR (a := 41) dX7_early_57 fl_X7_38 rfl rfl ?_
        refine r_getR (a := 63) dX7_early_60 fl_X7_175 rfl rfl ?_
        refine r_iload_1 dX7_early_63 ?_
        refine r_laldN dX7_early_64 rfl (by omega) ?_
        rw [show h3.2 63 e = _ from fl3 e (by omega)]
        refine r_lret dX7_early_65 rfl ?_
        exact ⟨rfl, (p2.2.2.2.2.wk (fun _ q => cp_pap q)).tr (f3.wk (fun _ q => rg_pap q))⟩
      · obtain ⟨-, -, m44, m46, -, mm⟩ := (i6.k p.kM).rf 0
        obtain ⟨rwm, sm, nam, acm, mem⟩ := mm hJ
        have ncm := sm.1
        refine Con.mk (by decide) ?_
        show RT _ _ 0 [some (.ref 74), some (.int (nI e)), some (.int (nI m)), none, none] [] _ _
        refine r_aload_0 dX8_early_0 ?_
        refine r_aload_0 dX8_early_1 ?_
        refine r_iload_1 dX8_early_2 ?_
        refine r_cV1 mX8_isEdge dX8_early_3 ml_X8_317 mo_X8_isEdge rfl (q_isEdge _ hb.2 (f7 p) _) (by decide) ?_
        rw [b2i_t hx]
        refine r_iload_2 dX8_early_6 ?_
        refine r_i2l dX8_early_7 ?_
        refine r_lconst (v := 0) dX8_early_8 (by decide) ?_
        refine r_ldc2 dX8_early_9 ks_X8_416 ?_
        refine r_cS3 mX8_in dX8_early_12 ml_X8_131 mo_X8_in (q_in _ _ _ _) (by decide) ?_
        rw [b2i_c (in_w (a' := 0) (b' := 60) (by decide +kernel) (by decide +kernel)), b2i_t hn]
        refine r_cS2 mX8_unless_ dX8_early_15 ml_X8_241 mo_X8_unless_ (q_unless2 _ _ _) (by decide) ?_
        rw [show (if (1 : Int32) = 0 then (1 : Int32) else if (1 : Int32) = 0 then 2 else 0) = 0 by decide]
        refine r_cV1 mX8_isRefused dX8_early_18 ml_X8_245 mo_X8_isRefused rfl (q_isRefused _ _) (by decide) ?_
        rw [b2i_f (by decide)]
        refine r_if_eq 28 dX8_early_21 (by decide) (fun c_21 => ?_) (fun c_21 => by exact absurd rfl c_21)
        refine r_aload_0 dX8_early_28 ?_
        refine r_iload_2 dX8_early_29 ?_
        refine r_cWQ1 mX8_laysEarly dX8_early_30 ml_X8_418 mo_X8_laysEarly rfl (q_laysEarly ok ncm hm) (by decide) (fun h3 p3 => ?_)
        obtain ⟨nc3, -, -, -, fl3, f3⟩ := p3
        refine r_aload_0 dX8_early_33 ?_
        refine r_getR (a := 87) dX8_early_34 fl_X8_52 rfl rfl ?_
        refine r_iload_1 dX8_early_37 ?_
        refine r_laldN dX8_early_38 rfl (by omega) ?_
        rw [fl3 e (by omega)]
        refine r_lstore_3 dX8_early_39 ?_
        refine r_aload_0 dX8_early_40 ?_
        refine r_cWQ0 mX8_solves dX8_early_41 ml_X8_260 mo_X8_solves rfl (q_solves ok nc3) (by decide) (fun h4 p4 => ?_)
        obtain ⟨s4, f4⟩ := p4
        refine r_lload_3 dX8_early_44 ?_
        refine r_lret dX8_early_45 rfl ?_
        exact ⟨rfl, s4, f3.tr f4⟩
    · refine Same.to2 i0 ⟨.long (-9223372036854775808), 2, by decide, ?_, ?_⟩
      · refine Con.mk (by decide) ?_
        show RT _ _ 0 [some (.ref 0), some (.int x), some (.int n)] [] _ _
        refine r_aload_0 dX7_early_0 ?_
        refine r_getR (a := 15) dX7_early_1 fl_X7_37 rfl rfl ?_
        refine r_iload_1 dX7_early_4 ?_
        refine r_cV1 mX2_hasEdge dX7_early_5 ml_X7_137 mo_X2_hasEdge rfl (k_X2_hasEdge isN15 h x) (by decide) ?_
        rw [i3.2.1, b2i_t hx]
        refine r_if_ne 17 dX7_early_8 (by decide) (fun c_8 => ?_) (fun c_8 => by exact absurd c_8 (by decide))
        refine r_iload_2 dX7_early_17 ?_
        refine r_if_lt 27 dX7_early_18 (by decide) (fun c_18 => ?_) (fun c_18 => ?_)
        · refine r_aload_0 dX7_early_27 ?_
          refine r_iconst (v := 2) dX7_early_28 (by decide) ?_
          refine r_cV1 mX7_refuseLong dX7_early_29 ml_X7_171 mo_X7_refuseLong rfl (k_refuseL h 2) (by decide) ?_
          refine r_lret dX7_early_32 rfl ?_
          exact ⟨rfl, rfl⟩
        · refine r_iload_2 dX7_early_21 ?_
          refine r_bipush (v := nI 60) dX7_early_22 (by decide) ?_
          refine r_icmp_le 33 dX7_early_24 (by decide) (fun c_24 => ?_) (fun c_24 => ?_)
          · exact absurd ⟨ge_of_nlt c_18, c_24⟩ hn
          · refine r_aload_0 dX7_early_27 ?_
            refine r_iconst (v := 2) dX7_early_28 (by decide) ?_
            refine r_cV1 mX7_refuseLong dX7_early_29 ml_X7_171 mo_X7_refuseLong rfl (k_refuseL h 2) (by decide) ?_
            refine r_lret dX7_early_32 rfl ?_
            exact ⟨rfl, rfl⟩
      · refine Con.mk (by decide) ?_
        show RT _ _ 0 [some (.ref 74), some (.int x), some (.int n), none, none] [] _ _
        refine r_aload_0 dX8_early_0 ?_
        refine r_aload_0 dX8_early_1 ?_
        refine r_iload_1 dX8_early_2 ?_
        refine r_cV1 mX8_isEdge dX8_early_3 ml_X8_317 mo_X8_isEdge rfl (q_isEdge _ hb.2 (f7 (pr 2)) _) (by decide) ?_
        rw [b2i_t hx]
        refine r_iload_2 dX8_early_6 ?_
        refine r_i2l dX8_early_7 ?_
        refine r_lconst (v := 0) dX8_early_8 (by decide) ?_
        refine r_ldc2 dX8_early_9 ks_X8_416 ?_
        refine r_cS3 mX8_in dX8_early_12 ml_X8_131 mo_X8_in (q_in _ _ _ _) (by decide) ?_
        rw [b2i_c (in_w (a' := 0) (b' := 60) (by decide +kernel) (by decide +kernel)), b2i_f hn]
        refine r_cS2 mX8_unless_ dX8_early_15 ml_X8_241 mo_X8_unless_ (q_unless2 _ _ _) (by decide) ?_
        rw [show (if (1 : Int32) = 0 then (1 : Int32) else if (0 : Int32) = 0 then 2 else 0) = 2 by decide]
        refine r_cV1 mX8_isRefused dX8_early_18 ml_X8_245 mo_X8_isRefused rfl (q_isRefused _ _) (by decide) ?_
        rw [b2i_t (by decide)]
        refine r_if_eq 28 dX8_early_21 (by decide) (fun c_21 => by exact absurd c_21 (by decide)) (fun c_21 => ?_)
        refine r_ldc2 dX8_early_24 ks_X8_102 ?_
        refine r_lret dX8_early_27 rfl ?_
        exact ⟨rfl, rfl⟩
  · refine Same.to2 i0 ⟨.long (-9223372036854775808), 1, by decide, ?_, ?_⟩
    · refine Con.mk (by decide) ?_
      show RT _ _ 0 [some (.ref 0), some (.int x), some (.int n)] [] _ _
      refine r_aload_0 dX7_early_0 ?_
      refine r_getR (a := 15) dX7_early_1 fl_X7_37 rfl rfl ?_
      refine r_iload_1 dX7_early_4 ?_
      refine r_cV1 mX2_hasEdge dX7_early_5 ml_X7_137 mo_X2_hasEdge rfl (k_X2_hasEdge isN15 h x) (by decide) ?_
      rw [i3.2.1, b2i_f hx]
      refine r_if_ne 17 dX7_early_8 (by decide) (fun c_8 => by exact absurd rfl c_8) (fun c_8 => ?_)
      refine r_aload_0 dX7_early_11 ?_
      refine r_iconst (v := 1) dX7_early_12 (by decide) ?_
      refine r_cV1 mX7_refuseLong dX7_early_13 ml_X7_171 mo_X7_refuseLong rfl (k_refuseL h 1) (by decide) ?_
      refine r_lret dX7_early_16 rfl ?_
      exact ⟨rfl, rfl⟩
    · refine Con.mk (by decide) ?_
      show RT _ _ 0 [some (.ref 74), some (.int x), some (.int n), none, none] [] _ _
      refine r_aload_0 dX8_early_0 ?_
      refine r_aload_0 dX8_early_1 ?_
      refine r_iload_1 dX8_early_2 ?_
      refine r_cV1 mX8_isEdge dX8_early_3 ml_X8_317 mo_X8_isEdge rfl (q_isEdge _ hb.2 (f7 (pr 1)) _) (by decide) ?_
      rw [b2i_f hx]
      refine r_iload_2 dX8_early_6 ?_
      refine r_i2l dX8_early_7 ?_
      refine r_lconst (v := 0) dX8_early_8 (by decide) ?_
      refine r_ldc2 dX8_early_9 ks_X8_416 ?_
      refine r_cS3 mX8_in dX8_early_12 ml_X8_131 mo_X8_in (q_in _ _ _ _) (by decide) ?_
      refine r_cS2 mX8_unless_ dX8_early_15 ml_X8_241 mo_X8_unless_ (q_unless2 _ _ _) (by decide) ?_
      rw [if_pos rfl]
      refine r_cV1 mX8_isRefused dX8_early_18 ml_X8_245 mo_X8_isRefused rfl (q_isRefused _ _) (by decide) ?_
      rw [b2i_t (by decide)]
      refine r_if_eq 28 dX8_early_21 (by decide) (fun c_21 => by exact absurd c_21 (by decide)) (fun c_21 => ?_)
      refine r_ldc2 dX8_early_24 ks_X8_102 ?_
      refine r_lret dX8_early_27 rfl ?_
      exact ⟨rfl, rfl⟩

