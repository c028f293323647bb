/-! ===== both: about, edge, joint ===== -/
theorem rng {x : Int32} {n : Nat} (hn : n < 15) (h1 : ¬ x < 0) (h2 : x ≤ nI n) : 0 ≤ x ∧ x < nI (n + 1) := by
  have e1 : (nI n).toInt = (n : Int) := (by decide +kernel : ∀ E, E < 16 → (nI E).toInt = (E : Int)) n (by omega)
  have e2 : (nI (n + 1)).toInt = ((n + 1 : Nat) : Int) := (by decide +kernel : ∀ E, E < 16 → (nI E).toInt = (E : Int)) (n + 1) (by omega)
  rw [fa_lt, Int32.toInt_zero] at h1
  rw [fa_le, e1] at h2
  rw [fa_le, fa_lt, e2, Int32.toInt_zero]
  omega
theorem in_k {v : Int32} {n : Nat} {k : Int64} (hk : k.toInt = (n : Int)) (hn : n < 15) : ((0 : Int64) ≤ v.toInt64 ∧ v.toInt64 ≤ k) ↔ (0 ≤ v ∧ v < nI (n + 1)) := by
  have h2 : (nI (n + 1)).toInt = ((n + 1 : Nat) : Int) := (by decide +kernel : ∀ E, E < 16 → (nI E).toInt = (E : Int)) (n + 1) (by omega)
  have h0 : (0 : Int64).toInt = 0 := by decide +kernel
  rw [le64, le64, fa_le, fa_lt, toInt64_toInt, hk, h2, h0, Int32.toInt_zero]
  omega
theorem ex_nat2 {x : Int32} {n : Nat} (hn : n < 15) (h : 0 ≤ x ∧ x < nI (n + 1)) : ∃ e, e < n + 1 ∧ x = nI e := by
  have h2 : (nI (n + 1)).toInt = ((n + 1 : Nat) : Int) := (by decide +kernel : ∀ E, E < 16 → (nI E).toInt = (E : Int)) (n + 1) (by omega)
  obtain ⟨h0, h1⟩ := h
  rw [fa_le, Int32.toInt_zero] at h0
  rw [fa_lt, h2] at h1
  refine ⟨x.toInt.toNat, by omega, ?_⟩
  rw [fa_eq, (by decide +kernel : ∀ E, E < 16 → (nI E).toInt = (E : Int)) x.toInt.toNat (by omega)]
  omega
set_option maxRecDepth 100000 in
set_option maxHeartbeats 4000000 in
theorem o_about {h : PH} (i : INV h) (x : Int32) : Same mX7_about 3 [.ref 0, .int x] mX8_about 3 [.ref 74, .int x] h := by
  obtain ⟨n, bs, tr, fl, wp, t, nm, ac, ms, i1, i2, i3, i4, i5, i6⟩ := i
  have hb := i3.e
  have f6 : ∀ y, (clH h y).1 74 6 = nI (NT.J t) := fun y => by rw [clH_1 (by decide)]; exact i6.1
  have f7 : ∀ y, (clH h y).1 74 7 = nI (NT.E t) := fun y => by rw [clH_1 (by decide)]; exact i6.2.1
  by_cases hJ : 0 < NT.J t
  · by_cases hx : 0 ≤ x ∧ x < nI (10 + 1)
    · obtain ⟨c, hc, rfl⟩ := ex_nat2 (by decide) hx
      obtain ⟨tx, nok, mok, sc, nac, acc, mec⟩ := (i3.k (clH_kC (x := 0))).2.2.2 hJ
      have ok := tx.1
      have hE14 := ok.2.2.1
      have hJ9 := ok.2.1
      obtain ⟨nc, s9, s10, s12, s11, tc, rc, flc, hdc⟩ := sc
      obtain ⟨-, -, m44, m46, -, mm⟩ := (i6.k (clH_kM (x := 0))).rf 0
      obtain ⟨rwm, sm, nam, acm, mem⟩ := mm hJ
      obtain ⟨ncm, p28, p39, p41, p40, tcm, rcm, flm, hdm⟩ := sm
      have k0 : (clH h 0).1 15 0 = nI (NT.J t) := nc.1
      have k1 : (clH h 0).1 15 1 = nI (NT.E t) := nc.2.1
      have k31 : (clH h 0).1 31 0 = nI (rgS (snOf t) (solveS (snOf t)).1).length := rc.1
      have a68 : (clH h 0).1 68 0 = nI ac.length := acc.1
      have n9 := mok.n9 ok
      have hcc : c = 0 ∨ c = 1 ∨ c = 2 ∨ c = 3 ∨ c = 4 ∨ c = 5 ∨ c = 6 ∨ c = 7 ∨ c = 8 ∨ c = 9 ∨ c = 10 := by omega
      rcases hcc with rfl | rfl | rfl | rfl | rfl | rfl | rfl | rfl | rfl | rfl | rfl
      · refine ⟨.int (nI (NT.J t)), 0, by decide, ?_, ?_⟩
        · refine Con.mk (by decide) ?_
          show RT _ _ 0 [some (.ref 0), some (.int (nI 0))] [] _ _
          refine r_aload_0 dX7_about_0 ?_
          refine r_cV0 mX7_hasText dX7_about_1 ml_X7_101 mo_X7_hasText rfl (k_hasText hb.1 i3.1) (by decide) ?_
          rw [b2i_t hJ]
          refine r_if_eq 17 dX7_about_4 (by decide) (fun c_4 => by exact absurd c_4 (by decide)) (fun c_4 => ?_)
          refine r_iload_1 dX7_about_7 ?_
          refine r_if_lt 17 dX7_about_8 (by decide) (fun c_8 => by exact absurd c_8 (by decide)) (fun c_8 => ?_)
          refine r_iload_1 dX7_about_11 ?_
          refine r_bipush (v := 10) dX7_about_12 (by decide) ?_
          refine r_icmp_le 23 dX7_about_14 (by decide) (fun c_14 => ?_) (fun c_14 => by exact absurd (show nI 0 ≤ 10 by decide) c_14)
          refine r_aload_0 dX7_about_23 ?_
          refine r_cW0 mX7_allow dX7_about_24 ml_X7_79 mo_X7_allow rfl (k_allow h) (by decide) ?_
          refine r_iload_1 dX7_about_27 ?_
          refine r_tabIn (x := nI 0) 84 dX7_about_28 (by decide +kernel) (by decide +kernel) rfl (by decide) ?_
          refine r_aload_0 dX7_about_84 ?_
          refine r_getR (a := 15) dX7_about_85 fl_X7_37 rfl rfl ?_
          refine r_getI dX7_about_88 fl_X7_98 rfl ?_
          rw [k0]
          refine r_iret dX7_about_91 rfl ?_
          exact ⟨rfl, rfl⟩
        · refine Con.mk (by decide) ?_
          show RT _ _ 0 [some (.ref 74), some (.int (nI 0))] [] _ _
          refine r_aload_0 dX8_about_0 ?_
          refine r_aload_0 dX8_about_1 ?_
          refine r_getI dX8_about_2 fl_X8_229 rfl ?_
          rw [f6 0]
          refine r_if_le 24 dX8_about_5 (by decide) (fun c_5 => by exact absurd c_5 (nI_nle hJ (by omega))) (fun c_5 => ?_)
          refine r_iload_1 dX8_about_8 ?_
          refine r_i2l dX8_about_9 ?_
          refine r_lconst (v := 0) dX8_about_10 (by decide) ?_
          refine r_ldc2 dX8_about_11 ks_X8_304 ?_
          refine r_cS3 mX8_in dX8_about_14 ml_X8_131 mo_X8_in (q_in _ _ _ _) (by decide) ?_
          rw [b2i_t (by decide +kernel)]
          refine r_if_eq 24 dX8_about_17 (by decide) (fun c_17 => by exact absurd c_17 (by decide)) (fun c_17 => ?_)
          refine r_iconst (v := 1) dX8_about_20 (by decide) ?_
          refine r_goto 25 dX8_about_21 (by decide) ?_
          refine r_cS1 mX8_unless dX8_about_25 ml_X8_330 mo_X8_unless (q_unless _ _) (by decide) ?_
          rw [un1]
          refine r_cV1 mX8_isRefused dX8_about_28 ml_X8_245 mo_X8_isRefused rfl (q_isRefused _ _) (by decide) ?_
          rw [b2i_f (by decide)]
          refine r_if_eq 36 dX8_about_31 (by decide) (fun c_31 => ?_) (fun c_31 => by exact absurd rfl c_31)
          refine r_iload_1 dX8_about_36 ?_
          refine r_tabIn (x := nI 0) 92 dX8_about_37 (by decide +kernel) (by decide +kernel) rfl (by decide) ?_
          refine r_aload_0 dX8_about_92 ?_
          refine r_getI dX8_about_93 fl_X8_229 rfl ?_
          rw [rwm.1]
          refine r_iret dX8_about_96 rfl ?_
          exact ⟨rfl, rfl⟩
      · refine ⟨.int (nI (NT.E t)), 0, by decide, ?_, ?_⟩
        · refine Con.mk (by decide) ?_
          show RT _ _ 0 [some (.ref 0), some (.int (nI 1))] [] _ _
          refine r_aload_0 dX7_about_0 ?_
          refine r_cV0 mX7_hasText dX7_about_1 ml_X7_101 mo_X7_hasText rfl (k_hasText hb.1 i3.1) (by decide) ?_
          rw [b2i_t hJ]
          refine r_if_eq 17 dX7_about_4 (by decide) (fun c_4 => by exact absurd c_4 (by decide)) (fun c_4 => ?_)
          refine r_iload_1 dX7_about_7 ?_
          refine r_if_lt 17 dX7_about_8 (by decide) (fun c_8 => by exact absurd c_8 (by decide)) (fun c_8 => ?_)
          refine r_iload_1 dX7_about_11 ?_
          refine r_bipush (v := 10) dX7_about_12 (by decide) ?_
          refine r_icmp_le 23 dX7_about_14 (by decide) (fun c_14 => ?_) (fun c_14 => by exact absurd (show nI 1 ≤ 10 by decide) c_14)
          refine r_aload_0 dX7_about_23 ?_
          refine r_cW0 mX7_allow dX7_about_24 ml_X7_79 mo_X7_allow rfl (k_allow h) (by decide) ?_
          refine r_iload_1 dX7_about_27 ?_
          refine r_tabIn (x := nI 1) 92 dX7_about_28 (by decide +kernel) (by decide +kernel) rfl (by decide) ?_
          refine r_aload_0 dX7_about_92 ?_
          refine r_getR (a := 15) dX7_about_93 fl_X7_37 rfl rfl ?_
          refine r_getI dX7_about_96 fl_X7_105 rfl ?_
          rw [k1]
          refine r_iret dX7_about_99 rfl ?_
          exact ⟨rfl, rfl⟩
        · refine Con.mk (by decide) ?_
          show RT _ _ 0 [some (.ref 74), some (.int (nI 1))] [] _ _
          refine r_aload_0 dX8_about_0 ?_
          refine r_aload_0 dX8_about_1 ?_
          refine r_getI dX8_about_2 fl_X8_229 rfl ?_
          rw [f6 0]
          refine r_if_le 24 dX8_about_5 (by decide) (fun c_5 => by exact absurd c_5 (nI_nle hJ (by omega))) (fun c_5 => ?_)
          refine r_iload_1 dX8_about_8 ?_
          refine r_i2l dX8_about_9 ?_
          refine r_lconst (v := 0) dX8_about_10 (by decide) ?_
          refine r_ldc2 dX8_about_11 ks_X8_304 ?_
          refine r_cS3 mX8_in dX8_about_14 ml_X8_131 mo_X8_in (q_in _ _ _ _) (by decide) ?_
          rw [b2i_t (by decide +kernel)]
          refine r_if_eq 24 dX8_about_17 (by decide) (fun c_17 => by exact absurd c_17 (by decide)) (fun c_17 => ?_)
          refine r_iconst (v := 1) dX8_about_20 (by decide) ?_
          refine r_goto 25 dX8_about_21 (by decide) ?_
          refine r_cS1 mX8_unless dX8_about_25 ml_X8_330 mo_X8_unless (q_unless _ _) (by decide) ?_
          rw [un1]
          refine r_cV1 mX8_isRefused dX8_about_28 ml_X8_245 mo_X8_isRefused rfl (q_isRefused _ _) (by decide) ?_
          rw [b2i_f (by decide)]
          refine r_if_eq 36 dX8_about_31 (by decide) (fun c_31 => ?_) (fun c_31 => by exact absurd rfl c_31)
          refine r_iload_1 dX8_about_36 ?_
          refine r_tabIn (x := nI 1) 97 dX8_about_37 (by decide +kernel) (by decide +kernel) rfl (by decide) ?_
          refine r_aload_0 dX8_about_97 ?_
          refine r_getI dX8_about_98 fl_X8_232 rfl ?_
          rw [rwm.2.1]
          refine r_iret dX8_about_101 rfl ?_
          exact ⟨rfl, rfl⟩
      · refine ⟨.int (nI (rgS (snOf t) (solveS (snOf t)).1).length), 0, by decide, ?_, ?_⟩
        · refine Con.mk (by decide) ?_
          show RT _ _ 0 [some (.ref 0), some (.int (nI 2))] [] _ _
          refine r_aload_0 dX7_about_0 ?_
          refine r_cV0 mX7_hasText dX7_about_1 ml_X7_101 mo_X7_hasText rfl (k_hasText hb.1 i3.1) (by decide) ?_
          rw [b2i_t hJ]
          refine r_if_eq 17 dX7_about_4 (by decide) (fun c_4 => by exact absurd c_4 (by decide)) (fun c_4 => ?_)
          refine r_iload_1 dX7_about_7 ?_
          refine r_if_lt 17 dX7_about_8 (by decide) (fun c_8 => by exact absurd c_8 (by decide)) (fun c_8 => ?_)
          refine r_iload_1 dX7_about_11 ?_
          refine r_bipush (v := 10) dX7_about_12 (by decide) ?_
          refine r_icmp_le 23 dX7_about_14 (by decide) (fun c_14 => ?_) (fun c_14 => by exact absurd (show nI 2 ≤ 10 by decide) c_14)
          refine r_aload_0 dX7_about_23 ?_
          refine r_cW0 mX7_allow dX7_about_24 ml_X7_79 mo_X7_allow rfl (k_allow h) (by decide) ?_
          refine r_iload_1 dX7_about_27 ?_
          refine r_tabIn (x := nI 2) 100 dX7_about_28 (by decide +kernel) (by decide +kernel) rfl (by decide) ?_
          refine r_aload_0 dX7_about_100 ?_
          refine r_getR (a := 14) dX7_about_101 fl_X7_29 rfl rfl ?_
          refine r_getR (a := 31) dX7_about_104 fl_X7_108 rfl rfl ?_
          refine r_getI dX7_about_107 fl_X7_112 rfl ?_
          rw [k31]
          refine r_iret dX7_about_110 rfl ?_
          exact ⟨rfl, rfl⟩
        · refine Con.mk (by decide) ?_
          show RT _ _ 0 [some (.ref 74), some (.int (nI 2))] [] _ _
          refine r_aload_0 dX8_about_0 ?_
          refine r_aload_0 dX8_about_1 ?_
          refine r_getI dX8_about_2 fl_X8_229 rfl ?_
          rw [f6 0]
          refine r_if_le 24 dX8_about_5 (by decide) (fun c_5 => by exact absurd c_5 (nI_nle hJ (by omega))) (fun c_5 => ?_)
          refine r_iload_1 dX8_about_8 ?_
          refine r_i2l dX8_about_9 ?_
          refine r_lconst (v := 0) dX8_about_10 (by decide) ?_
          refine r_ldc2 dX8_about_11 ks_X8_304 ?_
          refine r_cS3 mX8_in dX8_about_14 ml_X8_131 mo_X8_in (q_in _ _ _ _) (by decide) ?_
          rw [b2i_t (by decide +kernel)]
          refine r_if_eq 24 dX8_about_17 (by decide) (fun c_17 => by exact absurd c_17 (by decide)) (fun c_17 => ?_)
          refine r_iconst (v := 1) dX8_about_20 (by decide) ?_
          refine r_goto 25 dX8_about_21 (by decide) ?_
          refine r_cS1 mX8_unless dX8_about_25 ml_X8_330 mo_X8_unless (q_unless _ _) (by decide) ?_
          rw [un1]
          refine r_cV1 mX8_isRefused dX8_about_28 ml_X8_245 mo_X8_isRefused rfl (q_isRefused _ _) (by decide) ?_
          rw [b2i_f (by decide)]
          refine r_if_eq 36 dX8_about_31 (by decide) (fun c_31 => ?_) (fun c_31 => by exact absurd rfl c_31)
          refine r_iload_1 dX8_about_36 ?_
          refine r_tabIn (x := nI 2) 102 dX8_about_37 (by decide +kernel) (by decide +kernel) rfl (by decide) ?_
          refine r_aload_0 dX8_about_102 ?_
          refine r_getI dX8_about_103 fl_X8_288 rfl ?_
          rw [rcm.1]
          refine r_iret dX8_about_106 rfl ?_
          exact ⟨rfl, rfl⟩
      · refine ⟨.int (bI (solveS (snOf t)).2.2), 0, by decide, ?_, ?_⟩
        · refine Con.mk (by decide) ?_
          show RT _ _ 0 [some (.ref 0), some (.int (nI 3))] [] _ _
          refine r_aload_0 dX7_about_0 ?_
          refine r_cV0 mX7_hasText dX7_about_1 ml_X7_101 mo_X7_hasText rfl (k_hasText hb.1 i3.1) (by decide) ?_
          rw [b2i_t hJ]
          refine r_if_eq 17 dX7_about_4 (by decide) (fun c_4 => by exact absurd c_4 (by decide)) (fun c_4 => ?_)
          refine r_iload_1 dX7_about_7 ?_
          refine r_if_lt 17 dX7_about_8 (by decide) (fun c_8 => by exact absurd c_8 (by decide)) (fun c_8 => ?_)
          refine r_iload_1 dX7_about_11 ?_
          refine r_bipush (v := 10) dX7_about_12 (by decide) ?_
          refine r_icmp_le 23 dX7_about_14 (by decide) (fun c_14 => ?_) (fun c_14 => by exact absurd (show nI 3 ≤ 10 by decide) c_14)
          refine r_aload_0 dX7_about_23 ?_
          refine r_cW0 mX7_allow dX7_about_24 ml_X7_79 mo_X7_allow rfl (k_allow h) (by decide) ?_
          refine r_iload_1 dX7_about_27 ?_
          refine r_tabIn (x := nI 3) 111 dX7_about_28 (by decide +kernel) (by decide +kernel) rfl (by decide) ?_
          refine r_aload_0 dX7_about_111 ?_
          refine r_getR (a := 14) dX7_about_112 fl_X7_29 rfl rfl ?_
          refine r_getI dX7_about_115 fl_X7_115 rfl ?_
          rw [s12]
          refine r_if_eq 125 dX7_about_118 (by decide) (fun c_118 => ?_) (fun c_118 => ?_)
          · refine r_iconst (v := 0) dX7_about_125 (by decide) ?_
            refine r_iret dX7_about_126 rfl ?_
            exact ⟨by cases q : (solveS (snOf t)).2.2 <;> rw [q] at c_118 <;> first | rfl | exact absurd c_118 (by decide) | exact absurd rfl c_118, rfl⟩
          · refine r_iconst (v := 1) dX7_about_121 (by decide) ?_
            refine r_goto 126 dX7_about_122 (by decide) ?_
            refine r_iret dX7_about_126 rfl ?_
            exact ⟨by cases q : (solveS (snOf t)).2.2 <;> rw [q] at c_118 <;> first | rfl | exact absurd c_118 (by decide) | exact absurd rfl c_118, rfl⟩
        · refine Con.mk (by decide) ?_
          show RT _ _ 0 [some (.ref 74), some (.int (nI 3))] [] _ _
          refine r_aload_0 dX8_about_0 ?_
          refine r_aload_0 dX8_about_1 ?_
          refine r_getI dX8_about_2 fl_X8_229 rfl ?_
          rw [f6 0]
          refine r_if_le 24 dX8_about_5 (by decide) (fun c_5 => by exact absurd c_5 (nI_nle hJ (by omega))) (fun c_5 => ?_)
          refine r_iload_1 dX8_about_8 ?_
          refine r_i2l dX8_about_9 ?_
          refine r_lconst (v := 0) dX8_about_10 (by decide) ?_
          refine r_ldc2 dX8_about_11 ks_X8_304 ?_
          refine r_cS3 mX8_in dX8_about_14 ml_X8_131 mo_X8_in (q_in _ _ _ _) (by decide) ?_
          rw [b2i_t (by decide +kernel)]
          refine r_if_eq 24 dX8_about_17 (by decide) (fun c_17 => by exact absurd c_17 (by decide)) (fun c_17 => ?_)
          refine r_iconst (v := 1) dX8_about_20 (by decide) ?_
          refine r_goto 25 dX8_about_21 (by decide) ?_
          refine r_cS1 mX8_unless dX8_about_25 ml_X8_330 mo_X8_unless (q_unless _ _) (by decide) ?_
          rw [un1]
          refine r_cV1 mX8_isRefused dX8_about_28 ml_X8_245 mo_X8_isRefused rfl (q_isRefused _ _) (by decide) ?_
          rw [b2i_f (by decide)]
          refine r_if_eq 36 dX8_about_31 (by decide) (fun c_31 => ?_) (fun c_31 => by exact absurd rfl c_31)
          refine r_iload_1 dX8_about_36 ?_
          refine r_tabIn (x := nI 3) 107 dX8_about_37 (by decide +kernel) (by decide +kernel) rfl (by decide) ?_
          refine r_aload_0 dX8_about_107 ?_
          refine r_getI dX8_about_108 fl_X8_366 rfl ?_
          rw [p41]
          refine r_if_eq 118 dX8_about_111 (by decide) (fun c_111 => ?_) (fun c_111 => ?_)
          · refine r_iconst (v := 0) dX8_about_118 (by decide) ?_
            refine r_iret dX8_about_119 rfl ?_
            exact ⟨by cases q : (solveS (snOf t)).2.2 <;> rw [q] at c_111 <;> first | rfl | exact absurd c_111 (by decide) | exact absurd rfl c_111, rfl⟩
          · refine r_iconst (v := 1) dX8_about_114 (by decide) ?_
            refine r_goto 119 dX8_about_115 (by decide) ?_
            refine r_iret dX8_about_119 rfl ?_
            exact ⟨by cases q : (solveS (snOf t)).2.2 <;> rw [q] at c_111 <;> first | rfl | exact absurd c_111 (by decide) | exact absurd rfl c_111, rfl⟩
      · refine ⟨.int (nI (solveS (snOf t)).2.1), 0, by decide, ?_, ?_⟩
        · refine Con.mk (by decide) ?_
          show RT _ _ 0 [some (.ref 0), some (.int (nI 4))] [] _ _
          refine r_aload_0 dX7_about_0 ?_
          refine r_cV0 mX7_hasText dX7_about_1 ml_X7_101 mo_X7_hasText rfl (k_hasText hb.1 i3.1) (by decide) ?_
          rw [b2i_t hJ]
          refine r_if_eq 17 dX7_about_4 (by decide) (fun c_4 => by exact absurd c_4 (by decide)) (fun c_4 => ?_)
          refine r_iload_1 dX7_about_7 ?_
          refine r_if_lt 17 dX7_about_8 (by decide) (fun c_8 => by exact absurd c_8 (by decide)) (fun c_8 => ?_)
          refine r_iload_1 dX7_about_11 ?_
          refine r_bipush (v := 10) dX7_about_12 (by decide) ?_
          refine r_icmp_le 23 dX7_about_14 (by decide) (fun c_14 => ?_) (fun c_14 => by exact absurd (show nI 4 ≤ 10 by decide) c_14)
          refine r_aload_0 dX7_about_23 ?_
          refine r_cW0 mX7_allow dX7_about_24 ml_X7_79 mo_X7_allow rfl (k_allow h) (by decide) ?_
          refine r_iload_1 dX7_about_27 ?_
          refine r_tabIn (x := nI 4) 127 dX7_about_28 (by decide +kernel) (by decide +kernel) rfl (by decide) ?_
          refine r_aload_0 dX7_about_127 ?_
          refine r_getR (a := 14) dX7_about_128 fl_X7_29 rfl rfl ?_
          refine r_getI dX7_about_131 fl_X7_119 rfl ?_
          rw [s10]
          refine r_iret dX7_about_134 rfl ?_
          exact ⟨rfl, rfl⟩
        · refine Con.mk (by decide) ?_
          show RT _ _ 0 [some (.ref 74), some (.int (nI 4))] [] _ _
          refine r_aload_0 dX8_about_0 ?_
          refine r_aload_0 dX8_about_1 ?_
          refine r_getI dX8_about_2 fl_X8_229 rfl ?_
          rw [f6 0]
          refine r_if_le 24 dX8_about_5 (by decide) (fun c_5 => by exact absurd c_5 (nI_nle hJ (by omega))) (fun c_5 => ?_)
          refine r_iload_1 dX8_about_8 ?_
          refine r_i2l dX8_about_9 ?_
          refine r_lconst (v := 0) dX8_about_10 (by decide) ?_
          refine r_ldc2 dX8_about_11 ks_X8_304 ?_
          refine r_cS3 mX8_in dX8_about_14 ml_X8_131 mo_X8_in (q_in _ _ _ _) (by decide) ?_
          rw [b2i_t (by decide +kernel)]
          refine r_if_eq 24 dX8_about_17 (by decide) (fun c_17 => by exact absurd c_17 (by decide)) (fun c_17 => ?_)
          refine r_iconst (v := 1) dX8_about_20 (by decide) ?_
          refine r_goto 25 dX8_about_21 (by decide) ?_
          refine r_cS1 mX8_unless dX8_about_25 ml_X8_330 mo_X8_unless (q_unless _ _) (by decide) ?_
          rw [un1]
          refine r_cV1 mX8_isRefused dX8_about_28 ml_X8_245 mo_X8_isRefused rfl (q_isRefused _ _) (by decide) ?_
          rw [b2i_f (by decide)]
          refine r_if_eq 36 dX8_about_31 (by decide) (fun c_31 => ?_) (fun c_31 => by exact absurd rfl c_31)
          refine r_iload_1 dX8_about_36 ?_
          refine r_tabIn (x := nI 4) 120 dX8_about_37 (by decide +kernel) (by decide +kernel) rfl (by decide) ?_
          refine r_aload_0 dX8_about_120 ?_
          refine r_getI dX8_about_121 fl_X8_363 rfl ?_
          rw [p39]
          refine r_iret dX8_about_124 rfl ?_
          exact ⟨rfl, rfl⟩
      · refine ⟨.int (nI (flS (snOf t) (solveS (snOf t)).1 60).2), 0, by decide, ?_, ?_⟩
        · refine Con.mk (by decide) ?_
          show RT _ _ 0 [some (.ref 0), some (.int (nI 5))] [] _ _
          refine r_aload_0 dX7_about_0 ?_
          refine r_cV0 mX7_hasText dX7_about_1 ml_X7_101 mo_X7_hasText rfl (k_hasText hb.1 i3.1) (by decide) ?_
          rw [b2i_t hJ]
          refine r_if_eq 17 dX7_about_4 (by decide) (fun c_4 => by exact absurd c_4 (by decide)) (fun c_4 => ?_)
          refine r_iload_1 dX7_about_7 ?_
          refine r_if_lt 17 dX7_about_8 (by decide) (fun c_8 => by exact absurd c_8 (by decide)) (fun c_8 => ?_)
          refine r_iload_1 dX7_about_11 ?_
          refine r_bipush (v := 10) dX7_about_12 (by decide) ?_
          refine r_icmp_le 23 dX7_about_14 (by decide) (fun c_14 => ?_) (fun c_14 => by exact absurd (show nI 5 ≤ 10 by decide) c_14)
          refine r_aload_0 dX7_about_23 ?_
          refine r_cW0 mX7_allow dX7_about_24 ml_X7_79 mo_X7_allow rfl (k_allow h) (by decide) ?_
          refine r_iload_1 dX7_about_27 ?_
          refine r_tabIn (x := nI 5) 135 dX7_about_28 (by decide +kernel) (by decide +kernel) rfl (by decide) ?_
          refine r_aload_0 dX7_about_135 ?_
          refine r_getR (a := 14) dX7_about_136 fl_X7_29 rfl rfl ?_
          refine r_getI dX7_about_139 fl_X7_122 rfl ?_
          rw [s11]
          refine r_iret dX7_about_142 rfl ?_
          exact ⟨rfl, rfl⟩
        · refine Con.mk (by decide) ?_
          show RT _ _ 0 [some (.ref 74), some (.int (nI 5))] [] _ _
          refine r_aload_0 dX8_about_0 ?_
          refine r_aload_0 dX8_about_1 ?_
          refine r_getI dX8_about_2 fl_X8_229 rfl ?_
          rw [f6 0]
          refine r_if_le 24 dX8_about_5 (by decide) (fun c_5 => by exact absurd c_5 (nI_nle hJ (by omega))) (fun c_5 => ?_)
          refine r_iload_1 dX8_about_8 ?_
          refine r_i2l dX8_about_9 ?_
          refine r_lconst (v := 0) dX8_about_10 (by decide) ?_
          refine r_ldc2 dX8_about_11 ks_X8_304 ?_
          refine r_cS3 mX8_in dX8_about_14 ml_X8_131 mo_X8_in (q_in _ _ _ _) (by decide) ?_
          rw [b2i_t (by decide +kernel)]
          refine r_if_eq 24 dX8_about_17 (by decide) (fun c_17 => by exact absurd c_17 (by decide)) (fun c_17 => ?_)
          refine r_iconst (v := 1) dX8_about_20 (by decide) ?_
          refine r_goto 25 dX8_about_21 (by decide) ?_
          refine r_cS1 mX8_unless dX8_about_25 ml_X8_330 mo_X8_unless (q_unless _ _) (by decide) ?_
          rw [un1]
          refine r_cV1 mX8_isRefused dX8_about_28 ml_X8_245 mo_X8_isRefused rfl (q_isRefused _ _) (by decide) ?_
          rw [b2i_f (by decide)]
          refine r_if_eq 36 dX8_about_31 (by decide) (fun c_31 => ?_) (fun c_31 => by exact absurd rfl c_31)
          refine r_iload_1 dX8_about_36 ?_
          refine r_tabIn (x := nI 5) 125 dX8_about_37 (by decide +kernel) (by decide +kernel) rfl (by decide) ?_
          refine r_aload_0 dX8_about_125 ?_
          refine r_getI dX8_about_126 fl_X8_373 rfl ?_
          rw [p40]
          refine r_iret dX8_about_129 rfl ?_
          exact ⟨rfl, rfl⟩
      · refine ⟨.int (gvS t (trS (snOf t) (solveS (snOf t)).1)), 0, by decide, ?_, ?_⟩
        · refine Con.mk (by decide) ?_
          show RT _ _ 0 [some (.ref 0), some (.int (nI 6))] [] _ _
          refine r_aload_0 dX7_about_0 ?_
          refine r_cV0 mX7_hasText dX7_about_1 ml_X7_101 mo_X7_hasText rfl (k_hasText hb.1 i3.1) (by decide) ?_
          rw [b2i_t hJ]
          refine r_if_eq 17 dX7_about_4 (by decide) (fun c_4 => by exact absurd c_4 (by decide)) (fun c_4 => ?_)
          refine r_iload_1 dX7_about_7 ?_
          refine r_if_lt 17 dX7_about_8 (by decide) (fun c_8 => by exact absurd c_8 (by decide)) (fun c_8 => ?_)
          refine r_iload_1 dX7_about_11 ?_
          refine r_bipush (v := 10) dX7_about_12 (by decide) ?_
          refine r_icmp_le 23 dX7_about_14 (by decide) (fun c_14 => ?_) (fun c_14 => by exact absurd (show nI 6 ≤ 10 by decide) c_14)
          refine r_aload_0 dX7_about_23 ?_
          refine r_cW0 mX7_allow dX7_about_24 ml_X7_79 mo_X7_allow rfl (k_allow h) (by decide) ?_
          refine r_iload_1 dX7_about_27 ?_
          refine r_tabIn (x := nI 6) 143 dX7_about_28 (by decide +kernel) (by decide +kernel) rfl (by decide) ?_
          refine r_aload_0 dX7_about_143 ?_
          refine r_getR (a := 14) dX7_about_144 fl_X7_29 rfl rfl ?_
          refine r_cV0 mX6_given dX7_about_147 ml_X7_125 mo_X6_given rfl (k_given isW14 ok _ nc tc) (by decide) ?_
          refine r_iret dX7_about_150 rfl ?_
          exact ⟨rfl, rfl⟩
        · refine Con.mk (by decide) ?_
          show RT _ _ 0 [some (.ref 74), some (.int (nI 6))] [] _ _
          refine r_aload_0 dX8_about_0 ?_
          refine r_aload_0 dX8_about_1 ?_
          refine r_getI dX8_about_2 fl_X8_229 rfl ?_
          rw [f6 0]
          refine r_if_le 24 dX8_about_5 (by decide) (fun c_5 => by exact absurd c_5 (nI_nle hJ (by omega))) (fun c_5 => ?_)
          refine r_iload_1 dX8_about_8 ?_
          refine r_i2l dX8_about_9 ?_
          refine r_lconst (v := 0) dX8_about_10 (by decide) ?_
          refine r_ldc2 dX8_about_11 ks_X8_304 ?_
          refine r_cS3 mX8_in dX8_about_14 ml_X8_131 mo_X8_in (q_in _ _ _ _) (by decide) ?_
          rw [b2i_t (by decide +kernel)]
          refine r_if_eq 24 dX8_about_17 (by decide) (fun c_17 => by exact absurd c_17 (by decide)) (fun c_17 => ?_)
          refine r_iconst (v := 1) dX8_about_20 (by decide) ?_
          refine r_goto 25 dX8_about_21 (by decide) ?_
          refine r_cS1 mX8_unless dX8_about_25 ml_X8_330 mo_X8_unless (q_unless _ _) (by decide) ?_
          rw [un1]
          refine r_cV1 mX8_isRefused dX8_about_28 ml_X8_245 mo_X8_isRefused rfl (q_isRefused _ _) (by decide) ?_
          rw [b2i_f (by decide)]
          refine r_if_eq 36 dX8_about_31 (by decide) (fun c_31 => ?_) (fun c_31 => by exact absurd rfl c_31)
          refine r_iload_1 dX8_about_36 ?_
          refine r_tabIn (x := nI 6) 130 dX8_about_37 (by decide +kernel) (by decide +kernel) rfl (by decide) ?_
          refine r_aload_0 dX8_about_130 ?_
          refine r_cV0 mX8_given dX8_about_131 ml_X8_388 mo_X8_given rfl (q_given ok _ ncm tcm (fun j h1 h2 => by rw [(rwm.2.2.2.1 j h2).1]; exact if_neg (by omega)) tx.2.2.1) (by decide) ?_
          refine r_iret dX8_about_134 rfl ?_
          exact ⟨rfl, rfl⟩
      · refine ⟨.int (nI ac.length), 0, by decide, ?_, ?_⟩
        · refine Con.mk (by decide) ?_
          show RT _ _ 0 [some (.ref 0), some (.int (nI 7))] [] _ _
          refine r_aload_0 dX7_about_0 ?_
          refine r_cV0 mX7_hasText dX7_about_1 ml_X7_101 mo_X7_hasText rfl (k_hasText hb.1 i3.1) (by decide) ?_
          rw [b2i_t hJ]
          refine r_if_eq 17 dX7_about_4 (by decide) (fun c_4 => by exact absurd c_4 (by decide)) (fun c_4 => ?_)
          refine r_iload_1 dX7_about_7 ?_
          refine r_if_lt 17 dX7_about_8 (by decide) (fun c_8 => by exact absurd c_8 (by decide)) (fun c_8 => ?_)
          refine r_iload_1 dX7_about_11 ?_
          refine r_bipush (v := 10) dX7_about_12 (by decide) ?_
          refine r_icmp_le 23 dX7_about_14 (by decide) (fun c_14 => ?_) (fun c_14 => by exact absurd (show nI 7 ≤ 10 by decide) c_14)
          refine r_aload_0 dX7_about_23 ?_
          refine r_cW0 mX7_allow dX7_about_24 ml_X7_79 mo_X7_allow rfl (k_allow h) (by decide) ?_
          refine r_iload_1 dX7_about_27 ?_
          refine r_tabIn (x := nI 7) 151 dX7_about_28 (by decide +kernel) (by decide +kernel) rfl (by decide) ?_
          refine r_aload_0 dX7_about_151 ?_
          refine r_getR (a := 68) dX7_about_152 fl_X7_47 rfl rfl ?_
          refine r_getI dX7_about_155 fl_X7_89 rfl ?_
          rw [a68]
          refine r_iret dX7_about_158 rfl ?_
          exact ⟨rfl, rfl⟩
        · refine Con.mk (by decide) ?_
          show RT _ _ 0 [some (.ref 74), some (.int (nI 7))] [] _ _
          refine r_aload_0 dX8_about_0 ?_
          refine r_aload_0 dX8_about_1 ?_
          refine r_getI dX8_about_2 fl_X8_229 rfl ?_
          rw [f6 0]
          refine r_if_le 24 dX8_about_5 (by decide) (fun c_5 => by exact absurd c_5 (nI_nle hJ (by omega))) (fun c_5 => ?_)
          refine r_iload_1 dX8_about_8 ?_
          refine r_i2l dX8_about_9 ?_
          refine r_lconst (v := 0) dX8_about_10 (by decide) ?_
          refine r_ldc2 dX8_about_11 ks_X8_304 ?_
          refine r_cS3 mX8_in dX8_about_14 ml_X8_131 mo_X8_in (q_in _ _ _ _) (by decide) ?_
          rw [b2i_t (by decide +kernel)]
          refine r_if_eq 24 dX8_about_17 (by decide) (fun c_17 => by exact absurd c_17 (by decide)) (fun c_17 => ?_)
          refine r_iconst (v := 1) dX8_about_20 (by decide) ?_
          refine r_goto 25 dX8_about_21 (by decide) ?_
          refine r_cS1 mX8_unless dX8_about_25 ml_X8_330 mo_X8_unless (q_unless _ _) (by decide) ?_
          rw [un1]
          refine r_cV1 mX8_isRefused dX8_about_28 ml_X8_245 mo_X8_isRefused rfl (q_isRefused _ _) (by decide) ?_
          rw [b2i_f (by decide)]
          refine r_if_eq 36 dX8_about_31 (by decide) (fun c_31 => ?_) (fun c_31 => by exact absurd rfl c_31)
          refine r_iload_1 dX8_about_36 ?_
          refine r_tabIn (x := nI 7) 135 dX8_about_37 (by decide +kernel) (by decide +kernel) rfl (by decide) ?_
          refine r_aload_0 dX8_about_135 ?_
          refine r_getI dX8_about_136 fl_X8_238 rfl ?_
          rw [acm.1]
          refine r_iret dX8_about_139 rfl ?_
          exact ⟨rfl, rfl⟩
      · refine ⟨.int (dryS (NT.J t) (trS (snOf t) (solveS (snOf t)).1)), 0, by decide, ?_, ?_⟩
        · refine Con.mk (by decide) ?_
          show RT _ _ 0 [some (.ref 0), some (.int (nI 8))] [] _ _
          refine r_aload_0 dX7_about_0 ?_
          refine r_cV0 mX7_hasText dX7_about_1 ml_X7_101 mo_X7_hasText rfl (k_hasText hb.1 i3.1) (by decide) ?_
          rw [b2i_t hJ]
          refine r_if_eq 17 dX7_about_4 (by decide) (fun c_4 => by exact absurd c_4 (by decide)) (fun c_4 => ?_)
          refine r_iload_1 dX7_about_7 ?_
          refine r_if_lt 17 dX7_about_8 (by decide) (fun c_8 => by exact absurd c_8 (by decide)) (fun c_8 => ?_)
          refine r_iload_1 dX7_about_11 ?_
          refine r_bipush (v := 10) dX7_about_12 (by decide) ?_
          refine r_icmp_le 23 dX7_about_14 (by decide) (fun c_14 => ?_) (fun c_14 => by exact absurd (show nI 8 ≤ 10 by decide) c_14)
          refine r_aload_0 dX7_about_23 ?_
          refine r_cW0 mX7_allow dX7_about_24 ml_X7_79 mo_X7_allow rfl (k_allow h) (by decide) ?_
          refine r_iload_1 dX7_about_27 ?_
          refine r_tabIn (x := nI 8) 159 dX7_about_28 (by decide +kernel) (by decide +kernel) rfl (by decide) ?_
          refine r_aload_0 dX7_about_159 ?_
          refine r_getR (a := 14) dX7_about_160 fl_X7_29 rfl rfl ?_
          refine r_cV0 mX6_dryJoints dX7_about_163 ml_X7_129 mo_X6_dryJoints rfl (k_dry isW14 ok _ nc tc) (by decide) ?_
          refine r_iret dX7_about_166 rfl ?_
          exact ⟨rfl, rfl⟩
        · refine Con.mk (by decide) ?_
          show RT _ _ 0 [some (.ref 74), some (.int (nI 8))] [] _ _
          refine r_aload_0 dX8_about_0 ?_
          refine r_aload_0 dX8_about_1 ?_
          refine r_getI dX8_about_2 fl_X8_229 rfl ?_
          rw [f6 0]
          refine r_if_le 24 dX8_about_5 (by decide) (fun c_5 => by exact absurd c_5 (nI_nle hJ (by omega))) (fun c_5 => ?_)
          refine r_iload_1 dX8_about_8 ?_
          refine r_i2l dX8_about_9 ?_
          refine r_lconst (v := 0) dX8_about_10 (by decide) ?_
          refine r_ldc2 dX8_about_11 ks_X8_304 ?_
          refine r_cS3 mX8_in dX8_about_14 ml_X8_131 mo_X8_in (q_in _ _ _ _) (by decide) ?_
          rw [b2i_t (by decide +kernel)]
          refine r_if_eq 24 dX8_about_17 (by decide) (fun c_17 => by exact absurd c_17 (by decide)) (fun c_17 => ?_)
          refine r_iconst (v := 1) dX8_about_20 (by decide) ?_
          refine r_goto 25 dX8_about_21 (by decide) ?_
          refine r_cS1 mX8_unless dX8_about_25 ml_X8_330 mo_X8_unless (q_unless _ _) (by decide) ?_
          rw [un1]
          refine r_cV1 mX8_isRefused dX8_about_28 ml_X8_245 mo_X8_isRefused rfl (q_isRefused _ _) (by decide) ?_
          rw [b2i_f (by decide)]
          refine r_if_eq 36 dX8_about_31 (by decide) (fun c_31 => ?_) (fun c_31 => by exact absurd rfl c_31)
          refine r_iload_1 dX8_about_36 ?_
          refine r_tabIn (x := nI 8) 140 dX8_about_37 (by decide +kernel) (by decide +kernel) rfl (by decide) ?_
          refine r_aload_0 dX8_about_140 ?_
          refine r_cV0 mX8_dryBits dX8_about_141 ml_X8_391 mo_X8_dryBits rfl (q_dry ok _ ncm tcm) (by decide) ?_
          refine r_iret dX8_about_144 rfl ?_
          exact ⟨rfl, rfl⟩
      · refine ⟨.int ((solveS (snOf t)).1), 0, by decide, ?_, ?_⟩
        · refine Con.mk (by decide) ?_
          show RT _ _ 0 [some (.ref 0), some (.int (nI 9))] [] _ _
          refine r_aload_0 dX7_about_0 ?_
          refine r_cV0 mX7_hasText dX7_about_1 ml_X7_101 mo_X7_hasText rfl (k_hasText hb.1 i3.1) (by decide) ?_
          rw [b2i_t hJ]
          refine r_if_eq 17 dX7_about_4 (by decide) (fun c_4 => by exact absurd c_4 (by decide)) (fun c_4 => ?_)
          refine r_iload_1 dX7_about_7 ?_
          refine r_if_lt 17 dX7_about_8 (by decide) (fun c_8 => by exact absurd c_8 (by decide)) (fun c_8 => ?_)
          refine r_iload_1 dX7_about_11 ?_
          refine r_bipush (v := 10) dX7_about_12 (by decide) ?_
          refine r_icmp_le 23 dX7_about_14 (by decide) (fun c_14 => ?_) (fun c_14 => by exact absurd (show nI 9 ≤ 10 by decide) c_14)
          refine r_aload_0 dX7_about_23 ?_
          refine r_cW0 mX7_allow dX7_about_24 ml_X7_79 mo_X7_allow rfl (k_allow h) (by decide) ?_
          refine r_iload_1 dX7_about_27 ?_
          refine r_tabIn (x := nI 9) 167 dX7_about_28 (by decide +kernel) (by decide +kernel) rfl (by decide) ?_
          refine r_aload_0 dX7_about_167 ?_
          refine r_getR (a := 14) dX7_about_168 fl_X7_29 rfl rfl ?_
          refine r_getI dX7_about_171 fl_X7_132 rfl ?_
          rw [s9]
          refine r_iret dX7_about_174 rfl ?_
          exact ⟨rfl, rfl⟩
        · refine Con.mk (by decide) ?_
          show RT _ _ 0 [some (.ref 74), some (.int (nI 9))] [] _ _
          refine r_aload_0 dX8_about_0 ?_
          refine r_aload_0 dX8_about_1 ?_
          refine r_getI dX8_about_2 fl_X8_229 rfl ?_
          rw [f6 0]
          refine r_if_le 24 dX8_about_5 (by decide) (fun c_5 => by exact absurd c_5 (nI_nle hJ (by omega))) (fun c_5 => ?_)
          refine r_iload_1 dX8_about_8 ?_
          refine r_i2l dX8_about_9 ?_
          refine r_lconst (v := 0) dX8_about_10 (by decide) ?_
          refine r_ldc2 dX8_about_11 ks_X8_304 ?_
          refine r_cS3 mX8_in dX8_about_14 ml_X8_131 mo_X8_in (q_in _ _ _ _) (by decide) ?_
          rw [b2i_t (by decide +kernel)]
          refine r_if_eq 24 dX8_about_17 (by decide) (fun c_17 => by exact absurd c_17 (by decide)) (fun c_17 => ?_)
          refine r_iconst (v := 1) dX8_about_20 (by decide) ?_
          refine r_goto 25 dX8_about_21 (by decide) ?_
          refine r_cS1 mX8_unless dX8_about_25 ml_X8_330 mo_X8_unless (q_unless _ _) (by decide) ?_
          rw [un1]
          refine r_cV1 mX8_isRefused dX8_about_28 ml_X8_245 mo_X8_isRefused rfl (q_isRefused _ _) (by decide) ?_
          rw [b2i_f (by decide)]
          refine r_if_eq 36 dX8_about_31 (by decide) (fun c_31 => ?_) (fun c_31 => by exact absurd rfl c_31)
          refine r_iload_1 dX8_about_36 ?_
          refine r_tabIn (x := nI 9) 145 dX8_about_37 (by decide +kernel) (by decide +kernel) rfl (by decide) ?_
          refine r_aload_0 dX8_about_145 ?_
          refine r_getI dX8_about_146 fl_X8_263 rfl ?_
          rw [p28]
          refine r_iret dX8_about_149 rfl ?_
          exact ⟨rfl, rfl⟩
      · refine ⟨.int (cnM ms), 0, by decide, ?_, ?_⟩
        · refine Con.mk (by decide) ?_
          show RT _ _ 0 [some (.ref 0), some (.int (nI 10))] [] _ _
          refine r_aload_0 dX7_about_0 ?_
          refine r_cV0 mX7_hasText dX7_about_1 ml_X7_101 mo_X7_hasText rfl (k_hasText hb.1 i3.1) (by decide) ?_
          rw [b2i_t hJ]
          refine r_if_eq 17 dX7_about_4 (by decide) (fun c_4 => by exact absurd c_4 (by decide)) (fun c_4 => ?_)
          refine r_iload_1 dX7_about_7 ?_
          refine r_if_lt 17 dX7_about_8 (by decide) (fun c_8 => by exact absurd c_8 (by decide)) (fun c_8 => ?_)
          refine r_iload_1 dX7_about_11 ?_
          refine r_bipush (v := 10) dX7_about_12 (by decide) ?_
          refine r_icmp_le 23 dX7_about_14 (by decide) (fun c_14 => ?_) (fun c_14 => by exact absurd (show nI 10 ≤ 10 by decide) c_14)
          refine r_aload_0 dX7_about_23 ?_
          refine r_cW0 mX7_allow dX7_about_24 ml_X7_79 mo_X7_allow rfl (k_allow h) (by decide) ?_
          refine r_iload_1 dX7_about_27 ?_
          refine r_tabOut (x := nI 10) 175 dX7_about_28 (by decide +kernel) (by decide) ?_
          refine r_aload_0 dX7_about_175 ?_
          refine r_getR (a := 72) dX7_about_176 fl_X7_54 rfl rfl ?_
          refine r_cV0 mX1_count dX7_about_179 ml_X7_135 mo_X1_count rfl (k_count mec.1 n9) (by decide) ?_
          refine r_iret dX7_about_182 rfl ?_
          exact ⟨rfl, rfl⟩
        · refine Con.mk (by decide) ?_
          show RT _ _ 0 [some (.ref 74), some (.int (nI 10))] [] _ _
          refine r_aload_0 dX8_about_0 ?_
          refine r_aload_0 dX8_about_1 ?_
          refine r_getI dX8_about_2 fl_X8_229 rfl ?_
          rw [f6 0]
          refine r_if_le 24 dX8_about_5 (by decide) (fun c_5 => by exact absurd c_5 (nI_nle hJ (by omega))) (fun c_5 => ?_)
          refine r_iload_1 dX8_about_8 ?_
          refine r_i2l dX8_about_9 ?_
          refine r_lconst (v := 0) dX8_about_10 (by decide) ?_
          refine r_ldc2 dX8_about_11 ks_X8_304 ?_
          refine r_cS3 mX8_in dX8_about_14 ml_X8_131 mo_X8_in (q_in _ _ _ _) (by decide) ?_
          rw [b2i_t (by decide +kernel)]
          refine r_if_eq 24 dX8_about_17 (by decide) (fun c_17 => by exact absurd c_17 (by decide)) (fun c_17 => ?_)
          refine r_iconst (v := 1) dX8_about_20 (by decide) ?_
          refine r_goto 25 dX8_about_21 (by decide) ?_
          refine r_cS1 mX8_unless dX8_about_25 ml_X8_330 mo_X8_unless (q_unless _ _) (by decide) ?_
          rw [un1]
          refine r_cV1 mX8_isRefused dX8_about_28 ml_X8_245 mo_X8_isRefused rfl (q_isRefused _ _) (by decide) ?_
          rw [b2i_f (by decide)]
          refine r_if_eq 36 dX8_about_31 (by decide) (fun c_31 => ?_) (fun c_31 => by exact absurd rfl c_31)
          refine r_iload_1 dX8_about_36 ?_
          refine r_tabOut (x := nI 10) 150 dX8_about_37 (by decide +kernel) (by decide) ?_
          refine r_aload_0 dX8_about_150 ?_
          refine r_cV0 mX8_measuredMany dX8_about_151 ml_X8_394 mo_X8_measuredMany rfl (q_many mem) (by decide) ?_
          refine r_iret dX8_about_154 rfl ?_
          exact ⟨rfl, rfl⟩
    · refine ⟨.int (-1), 1, by decide, ?_, ?_⟩
      · refine Con.mk (by decide) ?_
        show RT _ _ 0 [some (.ref 0), some (.int x)] [] _ _
        refine r_aload_0 dX7_about_0 ?_
        refine r_cV0 mX7_hasText dX7_about_1 ml_X7_101 mo_X7_hasText rfl (k_hasText hb.1 i3.1) (by decide) ?_
        rw [b2i_t hJ]
        refine r_if_eq 17 dX7_about_4 (by decide) (fun c_4 => by exact absurd c_4 (by decide)) (fun c_4 => ?_)
        refine r_iload_1 dX7_about_7 ?_
        refine r_if_lt 17 dX7_about_8 (by decide) (fun c_8 => ?_) (fun c_8 => ?_)
        · refine r_aload_0 dX7_about_17 ?_
          refine r_iconst (v := 1) dX7_about_18 (by decide) ?_
          refine r_cV1 mX7_refuse dX7_about_19 ml_X7_65 mo_X7_refuse rfl (k_refuse h 1) (by decide) ?_
          refine r_iret dX7_about_22 rfl ?_
          exact ⟨rfl, rfl⟩
        · refine r_iload_1 dX7_about_11 ?_
          refine r_bipush (v := nI 10) dX7_about_12 (by decide) ?_
          refine r_icmp_le 23 dX7_about_14 (by decide) (fun c_14 => ?_) (fun c_14 => ?_)
          · exact absurd (rng (by decide) c_8 c_14) hx
          · refine r_aload_0 dX7_about_17 ?_
            refine r_iconst (v := 1) dX7_about_18 (by decide) ?_
            refine r_cV1 mX7_refuse dX7_about_19 ml_X7_65 mo_X7_refuse rfl (k_refuse h 1) (by decide) ?_
            refine r_iret dX7_about_22 rfl ?_
            exact ⟨rfl, rfl⟩
      · refine Con.mk (by decide) ?_
        show RT _ _ 0 [some (.ref 74), some (.int x)] [] _ _
        refine r_aload_0 dX8_about_0 ?_
        refine r_aload_0 dX8_about_1 ?_
        refine r_getI dX8_about_2 fl_X8_229 rfl ?_
        rw [f6 1]
        refine r_if_le 24 dX8_about_5 (by decide) (fun c_5 => by exact absurd c_5 (nI_nle hJ (by omega))) (fun c_5 => ?_)
        refine r_iload_1 dX8_about_8 ?_
        refine r_i2l dX8_about_9 ?_
        refine r_lconst (v := 0) dX8_about_10 (by decide) ?_
        refine r_ldc2 dX8_about_11 ks_X8_304 ?_
        refine r_cS3 mX8_in dX8_about_14 ml_X8_131 mo_X8_in (q_in _ _ _ _) (by decide) ?_
        rw [b2i_f (fun q => hx ((in_k (n := 10) (by decide +kernel) (by decide)).mp q))]
        refine r_if_eq 24 dX8_about_17 (by decide) (fun c_17 => ?_) (fun c_17 => by exact absurd rfl c_17)
        refine r_iconst (v := 0) dX8_about_24 (by decide) ?_
        refine r_cS1 mX8_unless dX8_about_25 ml_X8_330 mo_X8_unless (q_unless _ _) (by decide) ?_
        rw [un0]
        refine r_cV1 mX8_isRefused dX8_about_28 ml_X8_245 mo_X8_isRefused rfl (q_isRefused _ _) (by decide) ?_
        rw [b2i_t (by decide)]
        refine r_if_eq 36 dX8_about_31 (by decide) (fun c_31 => by exact absurd c_31 (by decide)) (fun c_31 => ?_)
        refine r_iconst (v := (-1)) dX8_about_34 (by decide) ?_
        refine r_iret dX8_about_35 rfl ?_
        exact ⟨rfl, rfl⟩
  · have hJ0 : NT.J t = 0 := by omega
    refine ⟨.int (-1), 1, by decide, ?_, ?_⟩
    · refine Con.mk (by decide) ?_
      show RT _ _ 0 [some (.ref 0), some (.int x)] [] _ _
      refine r_aload_0 dX7_about_0 ?_
      refine r_cV0 mX7_hasText dX7_about_1 ml_X7_101 mo_X7_hasText rfl (k_hasText hb.1 i3.1) (by decide) ?_
      rw [b2i_f hJ]
      refine r_if_eq 17 dX7_about_4 (by decide) (fun c_4 => ?_) (fun c_4 => by exact absurd rfl c_4)
      refine r_aload_0 dX7_about_17 ?_
      refine r_iconst (v := 1) dX7_about_18 (by decide) ?_
      refine r_cV1 mX7_refuse dX7_about_19 ml_X7_65 mo_X7_refuse rfl (k_refuse h 1) (by decide) ?_
      refine r_iret dX7_about_22 rfl ?_
      exact ⟨rfl, rfl⟩
    · refine Con.mk (by decide) ?_
      show RT _ _ 0 [some (.ref 74), some (.int x)] [] _ _
      refine r_aload_0 dX8_about_0 ?_
      refine r_aload_0 dX8_about_1 ?_
      refine r_getI dX8_about_2 fl_X8_229 rfl ?_
      rw [f6 1, hJ0]
      refine r_if_le 24 dX8_about_5 (by decide) (fun c_5 => ?_) (fun c_5 => by exact absurd (show nI 0 ≤ 0 by decide) c_5)
      refine r_iconst (v := 0) dX8_about_24 (by decide) ?_
      refine r_cS1 mX8_unless dX8_about_25 ml_X8_330 mo_X8_unless (q_unless _ _) (by decide) ?_
      rw [un0]
      refine r_cV1 mX8_isRefused dX8_about_28 ml_X8_245 mo_X8_isRefused rfl (q_isRefused _ _) (by decide) ?_
      rw [b2i_t (by decide)]
      refine r_if_eq 36 dX8_about_31 (by decide) (fun c_31 => by exact absurd c_31 (by decide)) (fun c_31 => ?_)
      refine r_iconst (v := (-1)) dX8_about_34 (by decide) ?_
      refine r_iret dX8_about_35 rfl ?_
      exact ⟨rfl, rfl⟩

set_option maxRecDepth 100000 in
set_option maxHeartbeats 4000000 in
theorem o_edge {h : PH} (i : INV h) (x : Int32) (y : Int32) : Same mX7_edge 2 [.ref 0, .int x, .int y] mX8_edge 4 [.ref 74, .int x, .int y] h := by
  obtain ⟨n, bs, tr, fl, wp, t, nm, ac, ms, i1, i2, i3, i4, i5, i6⟩ := i
  have hb := i3.e
  have f6 : ∀ y, (clH h y).1 74 6 = nI (NT.J t) := fun y => by rw [clH_1 (by decide)]; exact i6.1
  have f7 : ∀ y, (clH h y).1 74 7 = nI (NT.E t) := fun y => by rw [clH_1 (by decide)]; exact i6.2.1
  by_cases hx : 0 ≤ x ∧ x < nI (NT.E t)
  · by_cases hy : 0 ≤ y ∧ y < nI (7 + 1)
    · obtain ⟨e, he, rfl⟩ := ex_nat hb.2 hx
      obtain ⟨c, hc, rfl⟩ := ex_nat2 (by decide) hy
      have hJ : 0 < NT.J t := i3.je he
      obtain ⟨tx, nok, mok, sc, nac, acc, mec⟩ := (i3.k (clH_kC (x := 0))).2.2.2 hJ
      have ok := tx.1
      have hE14 := ok.2.2.1
      have hJ9 := ok.2.1
      obtain ⟨nc, s9, s10, s12, s11, tc, rc, flc, hdc⟩ := sc
      obtain ⟨-, -, m44, m46, -, mm⟩ := (i6.k (clH_kM (x := 0))).rf 0
      obtain ⟨rwm, sm, nam, acm, mem⟩ := mm hJ
      obtain ⟨ncm, p28, p39, p41, p40, tcm, rcm, flm, hdm⟩ := sm
      have k0 : (clH h 0).1 15 0 = nI (NT.J t) := nc.1
      have k1 : (clH h 0).1 15 1 = nI (NT.E t) := nc.2.1
      have k31 : (clH h 0).1 31 0 = nI (rgS (snOf t) (solveS (snOf t)).1).length := rc.1
      have a68 : (clH h 0).1 68 0 = nI ac.length := acc.1
      have n9 := mok.n9 ok
      obtain ⟨n1, n2, n3, n4, n5, n6⟩ := nc.2.2.2.2.2 e he
      have g1 : (clH h 0).1 19 e = nI (NT.fi t e) := n1
      have g2 : (clH h 0).1 20 e = nI (NT.se t e) := n2
      have g3 : (clH h 0).1 21 e = NT.kd t e := n3
      have g4 : ¬ NT.kd t e = 2 → (clH h 0).1 22 e = NT.rs t e := n4
      have gc : (clH h 0).1 15 3 = NT.cl t := nc.2.2.2.1
      obtain ⟨q1, q2, q3, q4, q5, q6⟩ := rwm.2.2.2.2 e he
      have he14 : e < 14 := by omega
      have gte : bt ((clH h 0).1 25 1) e = isTE (NT.fi t) (NT.se t) (trS (snOf t) (solveS (snOf t)).1) e := isTE_bit tc (ok.tw _) ok.ends hE14 he
      have r9 : ∀ L ∈ rgS (snOf t) (solveS (snOf t)).1, L.length ≤ 9 := fun L hL => (ok.ok.ring _ hL).2.1
      have r14 : (rgS (snOf t) (solveS (snOf t)).1).length ≤ 14 := ok.ok.rings _
      have rm : ∀ L ∈ rgS (snOf t) (solveS (snOf t)).1, ∀ q ∈ L, q.1 < 14 := fun L hL q hq => by have := (ok.ok.ring _ hL).2.2.2 q hq; simp only [gl, Bool.and_eq_true, decide_eq_true_eq] at this; have h1 : q.1 < NT.E t := this.1; omega
      have hcc : c = 0 ∨ c = 1 ∨ c = 2 ∨ c = 3 ∨ c = 4 ∨ c = 5 ∨ c = 6 ∨ c = 7 := by omega
      rcases hcc with rfl | rfl | rfl | rfl | rfl | rfl | rfl | rfl
      · refine ⟨.int (nI (NT.fi t e)), 0, by decide, ?_, ?_⟩
        · refine Con.mk (by decide) ?_
          show RT _ _ 0 [some (.ref 0), some (.int (nI e)), some (.int (nI 0))] [] _ _
          refine r_aload_0 dX7_edge_0 ?_
          refine r_getR (a := 15) dX7_edge_1 fl_X7_37 rfl rfl ?_
          refine r_iload_1 dX7_edge_4 ?_
          refine r_cV1 mX2_hasEdge dX7_edge_5 ml_X7_137 mo_X2_hasEdge rfl (k_X2_hasEdge isN15 h (nI e)) (by decide) ?_
          rw [i3.2.1, b2i_t hx]
          refine r_if_eq 21 dX7_edge_8 (by decide) (fun c_8 => by exact absurd c_8 (by decide)) (fun c_8 => ?_)
          refine r_iload_2 dX7_edge_11 ?_
          refine r_if_lt 21 dX7_edge_12 (by decide) (fun c_12 => by exact absurd c_12 (by decide)) (fun c_12 => ?_)
          refine r_iload_2 dX7_edge_15 ?_
          refine r_bipush (v := 7) dX7_edge_16 (by decide) ?_
          refine r_icmp_le 27 dX7_edge_18 (by decide) (fun c_18 => ?_) (fun c_18 => by exact absurd (show nI 0 ≤ 7 by decide) c_18)
          refine r_aload_0 dX7_edge_27 ?_
          refine r_cW0 mX7_allow dX7_edge_28 ml_X7_79 mo_X7_allow rfl (k_allow h) (by decide) ?_
          refine r_iload_2 dX7_edge_31 ?_
          refine r_tabIn (x := nI 0) 76 dX7_edge_32 (by decide +kernel) (by decide +kernel) rfl (by decide) ?_
          refine r_aload_0 dX7_edge_76 ?_
          refine r_getR (a := 15) dX7_edge_77 fl_X7_37 rfl rfl ?_
          refine r_getR (a := 19) dX7_edge_80 fl_X7_141 rfl rfl ?_
          refine r_iload_1 dX7_edge_83 ?_
          refine r_ialdN dX7_edge_84 rfl (by omega) ?_
          rw [g1]
          refine r_iret dX7_edge_85 rfl ?_
          exact ⟨rfl, rfl⟩
        · refine Con.mk (by decide) ?_
          show RT _ _ 0 [some (.ref 74), some (.int (nI e)), some (.int (nI 0))] [] _ _
          refine r_aload_0 dX8_edge_0 ?_
          refine r_aload_0 dX8_edge_1 ?_
          refine r_iload_1 dX8_edge_2 ?_
          refine r_cV1 mX8_isEdge dX8_edge_3 ml_X8_317 mo_X8_isEdge rfl (q_isEdge _ hb.2 (f7 0) _) (by decide) ?_
          rw [b2i_t hx]
          refine r_if_eq 25 dX8_edge_6 (by decide) (fun c_6 => by exact absurd c_6 (by decide)) (fun c_6 => ?_)
          refine r_iload_2 dX8_edge_9 ?_
          refine r_i2l dX8_edge_10 ?_
          refine r_lconst (v := 0) dX8_edge_11 (by decide) ?_
          refine r_ldc2 dX8_edge_12 ks_X8_397 ?_
          refine r_cS3 mX8_in dX8_edge_15 ml_X8_131 mo_X8_in (q_in _ _ _ _) (by decide) ?_
          rw [b2i_t (by decide +kernel)]
          refine r_if_eq 25 dX8_edge_18 (by decide) (fun c_18 => by exact absurd c_18 (by decide)) (fun c_18 => ?_)
          refine r_iconst (v := 1) dX8_edge_21 (by decide) ?_
          refine r_goto 26 dX8_edge_22 (by decide) ?_
          refine r_cS1 mX8_unless dX8_edge_26 ml_X8_330 mo_X8_unless (q_unless _ _) (by decide) ?_
          rw [un1]
          refine r_cV1 mX8_isRefused dX8_edge_29 ml_X8_245 mo_X8_isRefused rfl (q_isRefused _ _) (by decide) ?_
          rw [b2i_f (by decide)]
          refine r_if_eq 37 dX8_edge_32 (by decide) (fun c_32 => ?_) (fun c_32 => by exact absurd rfl c_32)
          refine r_iload_2 dX8_edge_37 ?_
          refine r_tabIn (x := nI 0) 80 dX8_edge_38 (by decide +kernel) (by decide +kernel) rfl (by decide) ?_
          refine r_aload_0 dX8_edge_80 ?_
          refine r_getR (a := 79) dX8_edge_81 fl_X8_28 rfl rfl ?_
          refine r_iload_1 dX8_edge_84 ?_
          refine r_ialdN dX8_edge_85 rfl (by omega) ?_
          rw [q1]
          refine r_iret dX8_edge_86 rfl ?_
          exact ⟨rfl, rfl⟩
      · refine ⟨.int (nI (NT.se t e)), 0, by decide, ?_, ?_⟩
        · refine Con.mk (by decide) ?_
          show RT _ _ 0 [some (.ref 0), some (.int (nI e)), some (.int (nI 1))] [] _ _
          refine r_aload_0 dX7_edge_0 ?_
          refine r_getR (a := 15) dX7_edge_1 fl_X7_37 rfl rfl ?_
          refine r_iload_1 dX7_edge_4 ?_
          refine r_cV1 mX2_hasEdge dX7_edge_5 ml_X7_137 mo_X2_hasEdge rfl (k_X2_hasEdge isN15 h (nI e)) (by decide) ?_
          rw [i3.2.1, b2i_t hx]
          refine r_if_eq 21 dX7_edge_8 (by decide) (fun c_8 => by exact absurd c_8 (by decide)) (fun c_8 => ?_)
          refine r_iload_2 dX7_edge_11 ?_
          refine r_if_lt 21 dX7_edge_12 (by decide) (fun c_12 => by exact absurd c_12 (by decide)) (fun c_12 => ?_)
          refine r_iload_2 dX7_edge_15 ?_
          refine r_bipush (v := 7) dX7_edge_16 (by decide) ?_
          refine r_icmp_le 27 dX7_edge_18 (by decide) (fun c_18 => ?_) (fun c_18 => by exact absurd (show nI 1 ≤ 7 by decide) c_18)
          refine r_aload_0 dX7_edge_27 ?_
          refine r_cW0 mX7_allow dX7_edge_28 ml_X7_79 mo_X7_allow rfl (k_allow h) (by decide) ?_
          refine r_iload_2 dX7_edge_31 ?_
          refine r_tabIn (x := nI 1) 86 dX7_edge_32 (by decide +kernel) (by decide +kernel) rfl (by decide) ?_
          refine r_aload_0 dX7_edge_86 ?_
          refine r_getR (a := 15) dX7_edge_87 fl_X7_37 rfl rfl ?_
          refine r_getR (a := 20) dX7_edge_90 fl_X7_145 rfl rfl ?_
          refine r_iload_1 dX7_edge_93 ?_
          refine r_ialdN dX7_edge_94 rfl (by omega) ?_
          rw [g2]
          refine r_iret dX7_edge_95 rfl ?_
          exact ⟨rfl, rfl⟩
        · refine Con.mk (by decide) ?_
          show RT _ _ 0 [some (.ref 74), some (.int (nI e)), some (.int (nI 1))] [] _ _
          refine r_aload_0 dX8_edge_0 ?_
          refine r_aload_0 dX8_edge_1 ?_
          refine r_iload_1 dX8_edge_2 ?_
          refine r_cV1 mX8_isEdge dX8_edge_3 ml_X8_317 mo_X8_isEdge rfl (q_isEdge _ hb.2 (f7 0) _) (by decide) ?_
          rw [b2i_t hx]
          refine r_if_eq 25 dX8_edge_6 (by decide) (fun c_6 => by exact absurd c_6 (by decide)) (fun c_6 => ?_)
          refine r_iload_2 dX8_edge_9 ?_
          refine r_i2l dX8_edge_10 ?_
          refine r_lconst (v := 0) dX8_edge_11 (by decide) ?_
          refine r_ldc2 dX8_edge_12 ks_X8_397 ?_
          refine r_cS3 mX8_in dX8_edge_15 ml_X8_131 mo_X8_in (q_in _ _ _ _) (by decide) ?_
          rw [b2i_t (by decide +kernel)]
          refine r_if_eq 25 dX8_edge_18 (by decide) (fun c_18 => by exact absurd c_18 (by decide)) (fun c_18 => ?_)
          refine r_iconst (v := 1) dX8_edge_21 (by decide) ?_
          refine r_goto 26 dX8_edge_22 (by decide) ?_
          refine r_cS1 mX8_unless dX8_edge_26 ml_X8_330 mo_X8_unless (q_unless _ _) (by decide) ?_
          rw [un1]
          refine r_cV1 mX8_isRefused dX8_edge_29 ml_X8_245 mo_X8_isRefused rfl (q_isRefused _ _) (by decide) ?_
          rw [b2i_f (by decide)]
          refine r_if_eq 37 dX8_edge_32 (by decide) (fun c_32 => ?_) (fun c_32 => by exact absurd rfl c_32)
          refine r_iload_2 dX8_edge_37 ?_
          refine r_tabIn (x := nI 1) 87 dX8_edge_38 (by decide +kernel) (by decide +kernel) rfl (by decide) ?_
          refine r_aload_0 dX8_edge_87 ?_
          refine r_getR (a := 80) dX8_edge_88 fl_X8_31 rfl rfl ?_
          refine r_iload_1 dX8_edge_91 ?_
          refine r_ialdN dX8_edge_92 rfl (by omega) ?_
          rw [q2]
          refine r_iret dX8_edge_93 rfl ?_
          exact ⟨rfl, rfl⟩
      · refine ⟨.int (NT.kd t e), 0, by decide, ?_, ?_⟩
        · refine Con.mk (by decide) ?_
          show RT _ _ 0 [some (.ref 0), some (.int (nI e)), some (.int (nI 2))] [] _ _
          refine r_aload_0 dX7_edge_0 ?_
          refine r_getR (a := 15) dX7_edge_1 fl_X7_37 rfl rfl ?_
          refine r_iload_1 dX7_edge_4 ?_
          refine r_cV1 mX2_hasEdge dX7_edge_5 ml_X7_137 mo_X2_hasEdge rfl (k_X2_hasEdge isN15 h (nI e)) (by decide) ?_
          rw [i3.2.1, b2i_t hx]
          refine r_if_eq 21 dX7_edge_8 (by decide) (fun c_8 => by exact absurd c_8 (by decide)) (fun c_8 => ?_)
          refine r_iload_2 dX7_edge_11 ?_
          refine r_if_lt 21 dX7_edge_12 (by decide) (fun c_12 => by exact absurd c_12 (by decide)) (fun c_12 => ?_)
          refine r_iload_2 dX7_edge_15 ?_
          refine r_bipush (v := 7) dX7_edge_16 (by decide) ?_
          refine r_icmp_le 27 dX7_edge_18 (by decide) (fun c_18 => ?_) (fun c_18 => by exact absurd (show nI 2 ≤ 7 by decide) c_18)
          refine r_aload_0 dX7_edge_27 ?_
          refine r_cW0 mX7_allow dX7_edge_28 ml_X7_79 mo_X7_allow rfl (k_allow h) (by decide) ?_
          refine r_iload_2 dX7_edge_31 ?_
          refine r_tabIn (x := nI 2) 96 dX7_edge_32 (by decide +kernel) (by decide +kernel) rfl (by decide) ?_
          refine r_aload_0 dX7_edge_96 ?_
          refine r_getR (a := 15) dX7_edge_97 fl_X7_37 rfl rfl ?_
          refine r_getR (a := 21) dX7_edge_100 fl_X7_148 rfl rfl ?_
          refine r_iload_1 dX7_edge_103 ?_
          refine r_ialdN dX7_edge_104 rfl (by omega) ?_
          rw [g3]
          refine r_iret dX7_edge_105 rfl ?_
          exact ⟨rfl, rfl⟩
        · refine Con.mk (by decide) ?_
          show RT _ _ 0 [some (.ref 74), some (.int (nI e)), some (.int (nI 2))] [] _ _
          refine r_aload_0 dX8_edge_0 ?_
          refine r_aload_0 dX8_edge_1 ?_
          refine r_iload_1 dX8_edge_2 ?_
          refine r_cV1 mX8_isEdge dX8_edge_3 ml_X8_317 mo_X8_isEdge rfl (q_isEdge _ hb.2 (f7 0) _) (by decide) ?_
          rw [b2i_t hx]
          refine r_if_eq 25 dX8_edge_6 (by decide) (fun c_6 => by exact absurd c_6 (by decide)) (fun c_6 => ?_)
          refine r_iload_2 dX8_edge_9 ?_
          refine r_i2l dX8_edge_10 ?_
          refine r_lconst (v := 0) dX8_edge_11 (by decide) ?_
          refine r_ldc2 dX8_edge_12 ks_X8_397 ?_
          refine r_cS3 mX8_in dX8_edge_15 ml_X8_131 mo_X8_in (q_in _ _ _ _) (by decide) ?_
          rw [b2i_t (by decide +kernel)]
          refine r_if_eq 25 dX8_edge_18 (by decide) (fun c_18 => by exact absurd c_18 (by decide)) (fun c_18 => ?_)
          refine r_iconst (v := 1) dX8_edge_21 (by decide) ?_
          refine r_goto 26 dX8_edge_22 (by decide) ?_
          refine r_cS1 mX8_unless dX8_edge_26 ml_X8_330 mo_X8_unless (q_unless _ _) (by decide) ?_
          rw [un1]
          refine r_cV1 mX8_isRefused dX8_edge_29 ml_X8_245 mo_X8_isRefused rfl (q_isRefused _ _) (by decide) ?_
          rw [b2i_f (by decide)]
          refine r_if_eq 37 dX8_edge_32 (by decide) (fun c_32 => ?_) (fun c_32 => by exact absurd rfl c_32)
          refine r_iload_2 dX8_edge_37 ?_
          refine r_tabIn (x := nI 2) 94 dX8_edge_38 (by decide +kernel) (by decide +kernel) rfl (by decide) ?_
          refine r_aload_0 dX8_edge_94 ?_
          refine r_getR (a := 81) dX8_edge_95 fl_X8_34 rfl rfl ?_
          refine r_iload_1 dX8_edge_98 ?_
          refine r_ialdN dX8_edge_99 rfl (by omega) ?_
          rw [q3]
          refine r_iret dX8_edge_100 rfl ?_
          exact ⟨rfl, rfl⟩
      · refine ⟨.int (rsM t e), 0, by decide, ?_, ?_⟩
        · refine Con.mk (by decide) ?_
          show RT _ _ 0 [some (.ref 0), some (.int (nI e)), some (.int (nI 3))] [] _ _
          refine r_aload_0 dX7_edge_0 ?_
          refine r_getR (a := 15) dX7_edge_1 fl_X7_37 rfl rfl ?_
          refine r_iload_1 dX7_edge_4 ?_
          refine r_cV1 mX2_hasEdge dX7_edge_5 ml_X7_137 mo_X2_hasEdge rfl (k_X2_hasEdge isN15 h (nI e)) (by decide) ?_
          rw [i3.2.1, b2i_t hx]
          refine r_if_eq 21 dX7_edge_8 (by decide) (fun c_8 => by exact absurd c_8 (by decide)) (fun c_8 => ?_)
          refine r_iload_2 dX7_edge_11 ?_
          refine r_if_lt 21 dX7_edge_12 (by decide) (fun c_12 => by exact absurd c_12 (by decide)) (fun c_12 => ?_)
          refine r_iload_2 dX7_edge_15 ?_
          refine r_bipush (v := 7) dX7_edge_16 (by decide) ?_
          refine r_icmp_le 27 dX7_edge_18 (by decide) (fun c_18 => ?_) (fun c_18 => by exact absurd (show nI 3 ≤ 7 by decide) c_18)
          refine r_aload_0 dX7_edge_27 ?_
          refine r_cW0 mX7_allow dX7_edge_28 ml_X7_79 mo_X7_allow rfl (k_allow h) (by decide) ?_
          refine r_iload_2 dX7_edge_31 ?_
          refine r_tabIn (x := nI 3) 106 dX7_edge_32 (by decide +kernel) (by decide +kernel) rfl (by decide) ?_
          refine r_aload_0 dX7_edge_106 ?_
          refine r_getR (a := 15) dX7_edge_107 fl_X7_37 rfl rfl ?_
          refine r_getR (a := 21) dX7_edge_110 fl_X7_148 rfl rfl ?_
          refine r_iload_1 dX7_edge_113 ?_
          refine r_ialdN dX7_edge_114 rfl (by omega) ?_
          rw [g3]
          refine r_iconst (v := 2) dX7_edge_115 (by decide) ?_
          refine r_icmp_ne 124 dX7_edge_116 (by decide) (fun c_116 => ?_) (fun c_116 => ?_)
          · refine r_aload_0 dX7_edge_124 ?_
            refine r_getR (a := 15) dX7_edge_125 fl_X7_37 rfl rfl ?_
            refine r_getR (a := 22) dX7_edge_128 fl_X7_151 rfl rfl ?_
            refine r_iload_1 dX7_edge_131 ?_
            refine r_ialdN dX7_edge_132 rfl (by omega) ?_
            refine r_iret dX7_edge_133 rfl ?_
            exact ⟨by unfold rsM; first | (rw [if_pos c_116]; done) | (rw [if_neg c_116, g4 c_116]; done), rfl⟩
          · refine r_bipush (v := (-2)) dX7_edge_119 (by decide) ?_
            refine r_goto 133 dX7_edge_121 (by decide) ?_
            refine r_iret dX7_edge_133 rfl ?_
            exact ⟨by unfold rsM; first | (rw [if_pos c_116]; done) | (rw [if_neg c_116, g4 c_116]; done), rfl⟩
        · refine Con.mk (by decide) ?_
          show RT _ _ 0 [some (.ref 74), some (.int (nI e)), some (.int (nI 3))] [] _ _
          refine r_aload_0 dX8_edge_0 ?_
          refine r_aload_0 dX8_edge_1 ?_
          refine r_iload_1 dX8_edge_2 ?_
          refine r_cV1 mX8_isEdge dX8_edge_3 ml_X8_317 mo_X8_isEdge rfl (q_isEdge _ hb.2 (f7 0) _) (by decide) ?_
          rw [b2i_t hx]
          refine r_if_eq 25 dX8_edge_6 (by decide) (fun c_6 => by exact absurd c_6 (by decide)) (fun c_6 => ?_)
          refine r_iload_2 dX8_edge_9 ?_
          refine r_i2l dX8_edge_10 ?_
          refine r_lconst (v := 0) dX8_edge_11 (by decide) ?_
          refine r_ldc2 dX8_edge_12 ks_X8_397 ?_
          refine r_cS3 mX8_in dX8_edge_15 ml_X8_131 mo_X8_in (q_in _ _ _ _) (by decide) ?_
          rw [b2i_t (by decide +kernel)]
          refine r_if_eq 25 dX8_edge_18 (by decide) (fun c_18 => by exact absurd c_18 (by decide)) (fun c_18 => ?_)
          refine r_iconst (v := 1) dX8_edge_21 (by decide) ?_
          refine r_goto 26 dX8_edge_22 (by decide) ?_
          refine r_cS1 mX8_unless dX8_edge_26 ml_X8_330 mo_X8_unless (q_unless _ _) (by decide) ?_
          rw [un1]
          refine r_cV1 mX8_isRefused dX8_edge_29 ml_X8_245 mo_X8_isRefused rfl (q_isRefused _ _) (by decide) ?_
          rw [b2i_f (by decide)]
          refine r_if_eq 37 dX8_edge_32 (by decide) (fun c_32 => ?_) (fun c_32 => by exact absurd rfl c_32)
          refine r_iload_2 dX8_edge_37 ?_
          refine r_tabIn (x := nI 3) 101 dX8_edge_38 (by decide +kernel) (by decide +kernel) rfl (by decide) ?_
          refine r_aload_0 dX8_edge_101 ?_
          refine r_getR (a := 82) dX8_edge_102 fl_X8_37 rfl rfl ?_
          refine r_iload_1 dX8_edge_105 ?_
          refine r_ialdN dX8_edge_106 rfl (by omega) ?_
          rw [q4]
          refine r_iret dX8_edge_107 rfl ?_
          exact ⟨rfl, rfl⟩
      · refine ⟨.int (b2i (bt (NT.cl t) e = true)), 0, by decide, ?_, ?_⟩
        · refine Con.mk (by decide) ?_
          show RT _ _ 0 [some (.ref 0), some (.int (nI e)), some (.int (nI 4))] [] _ _
          refine r_aload_0 dX7_edge_0 ?_
          refine r_getR (a := 15) dX7_edge_1 fl_X7_37 rfl rfl ?_
          refine r_iload_1 dX7_edge_4 ?_
          refine r_cV1 mX2_hasEdge dX7_edge_5 ml_X7_137 mo_X2_hasEdge rfl (k_X2_hasEdge isN15 h (nI e)) (by decide) ?_
          rw [i3.2.1, b2i_t hx]
          refine r_if_eq 21 dX7_edge_8 (by decide) (fun c_8 => by exact absurd c_8 (by decide)) (fun c_8 => ?_)
          refine r_iload_2 dX7_edge_11 ?_
          refine r_if_lt 21 dX7_edge_12 (by decide) (fun c_12 => by exact absurd c_12 (by decide)) (fun c_12 => ?_)
          refine r_iload_2 dX7_edge_15 ?_
          refine r_bipush (v := 7) dX7_edge_16 (by decide) ?_
          refine r_icmp_le 27 dX7_edge_18 (by decide) (fun c_18 => ?_) (fun c_18 => by exact absurd (show nI 4 ≤ 7 by decide) c_18)
          refine r_aload_0 dX7_edge_27 ?_
          refine r_cW0 mX7_allow dX7_edge_28 ml_X7_79 mo_X7_allow rfl (k_allow h) (by decide) ?_
          refine r_iload_2 dX7_edge_31 ?_
          refine r_tabIn (x := nI 4) 134 dX7_edge_32 (by decide +kernel) (by decide +kernel) rfl (by decide) ?_
          refine r_aload_0 dX7_edge_134 ?_
          refine r_getR (a := 15) dX7_edge_135 fl_X7_37 rfl rfl ?_
          refine r_getI dX7_edge_138 fl_X7_154 rfl ?_
          rw [gc]
          refine r_iload_1 dX7_edge_141 ?_
          refine r_cS2 mX7_bit dX7_edge_142 ml_X7_157 mo_X7_bit (k_bit _ _ (j := e) (by omega)) (by decide) ?_
          refine r_iret dX7_edge_145 rfl ?_
          exact ⟨rfl, rfl⟩
        · refine Con.mk (by decide) ?_
          show RT _ _ 0 [some (.ref 74), some (.int (nI e)), some (.int (nI 4))] [] _ _
          refine r_aload_0 dX8_edge_0 ?_
          refine r_aload_0 dX8_edge_1 ?_
          refine r_iload_1 dX8_edge_2 ?_
          refine r_cV1 mX8_isEdge dX8_edge_3 ml_X8_317 mo_X8_isEdge rfl (q_isEdge _ hb.2 (f7 0) _) (by decide) ?_
          rw [b2i_t hx]
          refine r_if_eq 25 dX8_edge_6 (by decide) (fun c_6 => by exact absurd c_6 (by decide)) (fun c_6 => ?_)
          refine r_iload_2 dX8_edge_9 ?_
          refine r_i2l dX8_edge_10 ?_
          refine r_lconst (v := 0) dX8_edge_11 (by decide) ?_
          refine r_ldc2 dX8_edge_12 ks_X8_397 ?_
          refine r_cS3 mX8_in dX8_edge_15 ml_X8_131 mo_X8_in (q_in _ _ _ _) (by decide) ?_
          rw [b2i_t (by decide +kernel)]
          refine r_if_eq 25 dX8_edge_18 (by decide) (fun c_18 => by exact absurd c_18 (by decide)) (fun c_18 => ?_)
          refine r_iconst (v := 1) dX8_edge_21 (by decide) ?_
          refine r_goto 26 dX8_edge_22 (by decide) ?_
          refine r_cS1 mX8_unless dX8_edge_26 ml_X8_330 mo_X8_unless (q_unless _ _) (by decide) ?_
          rw [un1]
          refine r_cV1 mX8_isRefused dX8_edge_29 ml_X8_245 mo_X8_isRefused rfl (q_isRefused _ _) (by decide) ?_
          rw [b2i_f (by decide)]
          refine r_if_eq 37 dX8_edge_32 (by decide) (fun c_32 => ?_) (fun c_32 => by exact absurd rfl c_32)
          refine r_iload_2 dX8_edge_37 ?_
          refine r_tabIn (x := nI 4) 108 dX8_edge_38 (by decide +kernel) (by decide +kernel) rfl (by decide) ?_
          refine r_aload_0 dX8_edge_108 ?_
          refine r_getI dX8_edge_109 fl_X8_235 rfl ?_
          rw [rwm.2.2.1]
          refine r_iload_1 dX8_edge_112 ?_
          refine r_ishr dX8_edge_113 ?_
          refine r_iconst (v := 1) dX8_edge_114 (by decide) ?_
          refine r_iand dX8_edge_115 ?_
          rw [bit_eq _ (by omega)]
          refine r_iret dX8_edge_116 rfl ?_
          exact ⟨rfl, rfl⟩
      · refine ⟨.int (b2i (bt (solveS (snOf t)).1 e = true)), 0, by decide, ?_, ?_⟩
        · refine Con.mk (by decide) ?_
          show RT _ _ 0 [some (.ref 0), some (.int (nI e)), some (.int (nI 5))] [] _ _
          refine r_aload_0 dX7_edge_0 ?_
          refine r_getR (a := 15) dX7_edge_1 fl_X7_37 rfl rfl ?_
          refine r_iload_1 dX7_edge_4 ?_
          refine r_cV1 mX2_hasEdge dX7_edge_5 ml_X7_137 mo_X2_hasEdge rfl (k_X2_hasEdge isN15 h (nI e)) (by decide) ?_
          rw [i3.2.1, b2i_t hx]
          refine r_if_eq 21 dX7_edge_8 (by decide) (fun c_8 => by exact absurd c_8 (by decide)) (fun c_8 => ?_)
          refine r_iload_2 dX7_edge_11 ?_
          refine r_if_lt 21 dX7_edge_12 (by decide) (fun c_12 => by exact absurd c_12 (by decide)) (fun c_12 => ?_)
          refine r_iload_2 dX7_edge_15 ?_
          refine r_bipush (v := 7) dX7_edge_16 (by decide) ?_
          refine r_icmp_le 27 dX7_edge_18 (by decide) (fun c_18 => ?_) (fun c_18 => by exact absurd (show nI 5 ≤ 7 by decide) c_18)
          refine r_aload_0 dX7_edge_27 ?_
          refine r_cW0 mX7_allow dX7_edge_28 ml_X7_79 mo_X7_allow rfl (k_allow h) (by decide) ?_
          refine r_iload_2 dX7_edge_31 ?_
          refine r_tabIn (x := nI 5) 146 dX7_edge_32 (by decide +kernel) (by decide +kernel) rfl (by decide) ?_
          refine r_aload_0 dX7_edge_146 ?_
          refine r_getR (a := 14) dX7_edge_147 fl_X7_29 rfl rfl ?_
          refine r_getI dX7_edge_150 fl_X7_132 rfl ?_
          rw [s9]
          refine r_iload_1 dX7_edge_153 ?_
          refine r_cS2 mX7_bit dX7_edge_154 ml_X7_157 mo_X7_bit (k_bit _ _ (j := e) (by omega)) (by decide) ?_
          refine r_iret dX7_edge_157 rfl ?_
          exact ⟨rfl, rfl⟩
        · refine Con.mk (by decide) ?_
          show RT _ _ 0 [some (.ref 74), some (.int (nI e)), some (.int (nI 5))] [] _ _
          refine r_aload_0 dX8_edge_0 ?_
          refine r_aload_0 dX8_edge_1 ?_
          refine r_iload_1 dX8_edge_2 ?_
          refine r_cV1 mX8_isEdge dX8_edge_3 ml_X8_317 mo_X8_isEdge rfl (q_isEdge _ hb.2 (f7 0) _) (by decide) ?_
          rw [b2i_t hx]
          refine r_if_eq 25 dX8_edge_6 (by decide) (fun c_6 => by exact absurd c_6 (by decide)) (fun c_6 => ?_)
          refine r_iload_2 dX8_edge_9 ?_
          refine r_i2l dX8_edge_10 ?_
          refine r_lconst (v := 0) dX8_edge_11 (by decide) ?_
          refine r_ldc2 dX8_edge_12 ks_X8_397 ?_
          refine r_cS3 mX8_in dX8_edge_15 ml_X8_131 mo_X8_in (q_in _ _ _ _) (by decide) ?_
          rw [b2i_t (by decide +kernel)]
          refine r_if_eq 25 dX8_edge_18 (by decide) (fun c_18 => by exact absurd c_18 (by decide)) (fun c_18 => ?_)
          refine r_iconst (v := 1) dX8_edge_21 (by decide) ?_
          refine r_goto 26 dX8_edge_22 (by decide) ?_
          refine r_cS1 mX8_unless dX8_edge_26 ml_X8_330 mo_X8_unless (q_unless _ _) (by decide) ?_
          rw [un1]
          refine r_cV1 mX8_isRefused dX8_edge_29 ml_X8_245 mo_X8_isRefused rfl (q_isRefused _ _) (by decide) ?_
          rw [b2i_f (by decide)]
          refine r_if_eq 37 dX8_edge_32 (by decide) (fun c_32 => ?_) (fun c_32 => by exact absurd rfl c_32)
          refine r_iload_2 dX8_edge_37 ?_
          refine r_tabIn (x := nI 5) 117 dX8_edge_38 (by decide +kernel) (by decide +kernel) rfl (by decide) ?_
          refine r_aload_0 dX8_edge_117 ?_
          refine r_getI dX8_edge_118 fl_X8_263 rfl ?_
          rw [p28]
          refine r_iload_1 dX8_edge_121 ?_
          refine r_ishr dX8_edge_122 ?_
          refine r_iconst (v := 1) dX8_edge_123 (by decide) ?_
          refine r_iand dX8_edge_124 ?_
          rw [bit_eq _ (by omega)]
          refine r_iret dX8_edge_125 rfl ?_
          exact ⟨rfl, rfl⟩
      · refine ⟨.int (b2i (isTE (NT.fi t) (NT.se t) (trS (snOf t) (solveS (snOf t)).1) e = true)), 0, by decide, ?_, ?_⟩
        · refine Con.mk (by decide) ?_
          show RT _ _ 0 [some (.ref 0), some (.int (nI e)), some (.int (nI 6))] [] _ _
          refine r_aload_0 dX7_edge_0 ?_
          refine r_getR (a := 15) dX7_edge_1 fl_X7_37 rfl rfl ?_
          refine r_iload_1 dX7_edge_4 ?_
          refine r_cV1 mX2_hasEdge dX7_edge_5 ml_X7_137 mo_X2_hasEdge rfl (k_X2_hasEdge isN15 h (nI e)) (by decide) ?_
          rw [i3.2.1, b2i_t hx]
          refine r_if_eq 21 dX7_edge_8 (by decide) (fun c_8 => by exact absurd c_8 (by decide)) (fun c_8 => ?_)
          refine r_iload_2 dX7_edge_11 ?_
          refine r_if_lt 21 dX7_edge_12 (by decide) (fun c_12 => by exact absurd c_12 (by decide)) (fun c_12 => ?_)
          refine r_iload_2 dX7_edge_15 ?_
          refine r_bipush (v := 7) dX7_edge_16 (by decide) ?_
          refine r_icmp_le 27 dX7_edge_18 (by decide) (fun c_18 => ?_) (fun c_18 => by exact absurd (show nI 6 ≤ 7 by decide) c_18)
          refine r_aload_0 dX7_edge_27 ?_
          refine r_cW0 mX7_allow dX7_edge_28 ml_X7_79 mo_X7_allow rfl (k_allow h) (by decide) ?_
          refine r_iload_2 dX7_edge_31 ?_
          refine r_tabIn (x := nI 6) 158 dX7_edge_32 (by decide +kernel) (by decide +kernel) rfl (by decide) ?_
          refine r_aload_0 dX7_edge_158 ?_
          refine r_getR (a := 14) dX7_edge_159 fl_X7_29 rfl rfl ?_
          refine r_getR (a := 25) dX7_edge_162 fl_X7_161 rfl rfl ?_
          refine r_getI dX7_edge_165 fl_X7_165 rfl ?_
          refine r_iload_1 dX7_edge_168 ?_
          refine r_cS2 mX7_bit dX7_edge_169 ml_X7_157 mo_X7_bit (k_bit _ _ (j := e) (by omega)) (by decide) ?_
          rw [gte]
          refine r_iret dX7_edge_172 rfl ?_
          exact ⟨rfl, rfl⟩
        · refine Con.mk (by decide) ?_
          show RT _ _ 0 [some (.ref 74), some (.int (nI e)), some (.int (nI 6))] [] _ _
          refine r_aload_0 dX8_edge_0 ?_
          refine r_aload_0 dX8_edge_1 ?_
          refine r_iload_1 dX8_edge_2 ?_
          refine r_cV1 mX8_isEdge dX8_edge_3 ml_X8_317 mo_X8_isEdge rfl (q_isEdge _ hb.2 (f7 0) _) (by decide) ?_
          rw [b2i_t hx]
          refine r_if_eq 25 dX8_edge_6 (by decide) (fun c_6 => by exact absurd c_6 (by decide)) (fun c_6 => ?_)
          refine r_iload_2 dX8_edge_9 ?_
          refine r_i2l dX8_edge_10 ?_
          refine r_lconst (v := 0) dX8_edge_11 (by decide) ?_
          refine r_ldc2 dX8_edge_12 ks_X8_397 ?_
          refine r_cS3 mX8_in dX8_edge_15 ml_X8_131 mo_X8_in (q_in _ _ _ _) (by decide) ?_
          rw [b2i_t (by decide +kernel)]
          refine r_if_eq 25 dX8_edge_18 (by decide) (fun c_18 => by exact absurd c_18 (by decide)) (fun c_18 => ?_)
          refine r_iconst (v := 1) dX8_edge_21 (by decide) ?_
          refine r_goto 26 dX8_edge_22 (by decide) ?_
          refine r_cS1 mX8_unless dX8_edge_26 ml_X8_330 mo_X8_unless (q_unless _ _) (by decide) ?_
          rw [un1]
          refine r_cV1 mX8_isRefused dX8_edge_29 ml_X8_245 mo_X8_isRefused rfl (q_isRefused _ _) (by decide) ?_
          rw [b2i_f (by decide)]
          refine r_if_eq 37 dX8_edge_32 (by decide) (fun c_32 => ?_) (fun c_32 => by exact absurd rfl c_32)
          refine r_iload_2 dX8_edge_37 ?_
          refine r_tabIn (x := nI 6) 126 dX8_edge_38 (by decide +kernel) (by decide +kernel) rfl (by decide) ?_
          refine r_aload_0 dX8_edge_126 ?_
          refine r_iload_1 dX8_edge_127 ?_
          refine r_cV1 mX8_isTree dX8_edge_128 ml_X8_354 mo_X8_isTree rfl (q_isTree ok ncm he tcm) (by decide) ?_
          rw [p28, tcm.1 _ (by have := (ok.ends e he).1; omega), show ((opS (snOf t) (solveS (snOf t)).1 e && (trS (snOf t) (solveS (snOf t)).1).2.2.2 (NT.fi t e)) && isTE (NT.fi t) (NT.se t) (trS (snOf t) (solveS (snOf t)).1) e) = isTE (NT.fi t) (NT.se t) (trS (snOf t) (solveS (snOf t)).1) e by cases q : isTE (NT.fi t) (NT.se t) (trS (snOf t) (solveS (snOf t)).1) e with | false => simp | true => rw [te_live ok _ he q]; rfl]
          refine r_if_eq 138 dX8_edge_131 (by decide) (fun c_131 => ?_) (fun c_131 => ?_)
          · refine r_iconst (v := 0) dX8_edge_138 (by decide) ?_
            refine r_iret dX8_edge_139 rfl ?_
            exact ⟨by cases q : isTE (NT.fi t) (NT.se t) (trS (snOf t) (solveS (snOf t)).1) e <;> rw [q] at c_131 <;> first | rfl | exact absurd c_131 (by decide) | exact absurd rfl c_131, rfl⟩
          · refine r_iconst (v := 1) dX8_edge_134 (by decide) ?_
            refine r_goto 139 dX8_edge_135 (by decide) ?_
            refine r_iret dX8_edge_139 rfl ?_
            exact ⟨by cases q : isTE (NT.fi t) (NT.se t) (trS (snOf t) (solveS (snOf t)).1) e <;> rw [q] at c_131 <;> first | rfl | exact absurd c_131 (by decide) | exact absurd rfl c_131, rfl⟩
      · refine ⟨.int (ctS e (rgS (snOf t) (solveS (snOf t)).1) 0), 0, by decide, ?_, ?_⟩
        · refine Con.mk (by decide) ?_
          show RT _ _ 0 [some (.ref 0), some (.int (nI e)), some (.int (nI 7))] [] _ _
          refine r_aload_0 dX7_edge_0 ?_
          refine r_getR (a := 15) dX7_edge_1 fl_X7_37 rfl rfl ?_
          refine r_iload_1 dX7_edge_4 ?_
          refine r_cV1 mX2_hasEdge dX7_edge_5 ml_X7_137 mo_X2_hasEdge rfl (k_X2_hasEdge isN15 h (nI e)) (by decide) ?_
          rw [i3.2.1, b2i_t hx]
          refine r_if_eq 21 dX7_edge_8 (by decide) (fun c_8 => by exact absurd c_8 (by decide)) (fun c_8 => ?_)
          refine r_iload_2 dX7_edge_11 ?_
          refine r_if_lt 21 dX7_edge_12 (by decide) (fun c_12 => by exact absurd c_12 (by decide)) (fun c_12 => ?_)
          refine r_iload_2 dX7_edge_15 ?_
          refine r_bipush (v := 7) dX7_edge_16 (by decide) ?_
          refine r_icmp_le 27 dX7_edge_18 (by decide) (fun c_18 => ?_) (fun c_18 => by exact absurd (show nI 7 ≤ 7 by decide) c_18)
          refine r_aload_0 dX7_edge_27 ?_
          refine r_cW0 mX7_allow dX7_edge_28 ml_X7_79 mo_X7_allow rfl (k_allow h) (by decide) ?_
          refine r_iload_2 dX7_edge_31 ?_
          refine r_tabOut (x := nI 7) 173 dX7_edge_32 (by decide +kernel) (by decide) ?_
          refine r_aload_0 dX7_edge_173 ?_
          refine r_getR (a := 14) dX7_edge_174 fl_X7_29 rfl rfl ?_
          refine r_getR (a := 31) dX7_edge_177 fl_X7_108 rfl rfl ?_
          refine r_iload_1 dX7_edge_180 ?_
          refine r_cV1 mX4_countThrough dX7_edge_181 ml_X7_168 mo_X4_countThrough rfl (k_through (Or.inl rfl) he14 rc r14 r9 rm) (by decide) ?_
          refine r_iret dX7_edge_184 rfl ?_
          exact ⟨rfl, rfl⟩
        · refine Con.mk (by decide) ?_
          show RT _ _ 0 [some (.ref 74), some (.int (nI e)), some (.int (nI 7))] [] _ _
          refine r_aload_0 dX8_edge_0 ?_
          refine r_aload_0 dX8_edge_1 ?_
          refine r_iload_1 dX8_edge_2 ?_
          refine r_cV1 mX8_isEdge dX8_edge_3 ml_X8_317 mo_X8_isEdge rfl (q_isEdge _ hb.2 (f7 0) _) (by decide) ?_
          rw [b2i_t hx]
          refine r_if_eq 25 dX8_edge_6 (by decide) (fun c_6 => by exact absurd c_6 (by decide)) (fun c_6 => ?_)
          refine r_iload_2 dX8_edge_9 ?_
          refine r_i2l dX8_edge_10 ?_
          refine r_lconst (v := 0) dX8_edge_11 (by decide) ?_
          refine r_ldc2 dX8_edge_12 ks_X8_397 ?_
          refine r_cS3 mX8_in dX8_edge_15 ml_X8_131 mo_X8_in (q_in _ _ _ _) (by decide) ?_
          rw [b2i_t (by decide +kernel)]
          refine r_if_eq 25 dX8_edge_18 (by decide) (fun c_18 => by exact absurd c_18 (by decide)) (fun c_18 => ?_)
          refine r_iconst (v := 1) dX8_edge_21 (by decide) ?_
          refine r_goto 26 dX8_edge_22 (by decide) ?_
          refine r_cS1 mX8_unless dX8_edge_26 ml_X8_330 mo_X8_unless (q_unless _ _) (by decide) ?_
          rw [un1]
          refine r_cV1 mX8_isRefused dX8_edge_29 ml_X8_245 mo_X8_isRefused rfl (q_isRefused _ _) (by decide) ?_
          rw [b2i_f (by decide)]
          refine r_if_eq 37 dX8_edge_32 (by decide) (fun c_32 => ?_) (fun c_32 => by exact absurd rfl c_32)
          refine r_iload_2 dX8_edge_37 ?_
          refine r_tabOut (x := nI 7) 140 dX8_edge_38 (by decide +kernel) (by decide) ?_
          refine r_aload_0 dX8_edge_140 ?_
          refine r_iload_1 dX8_edge_141 ?_
          refine r_cV1 mX8_ringsOf dX8_edge_142 ml_X8_399 mo_X8_ringsOf rfl (q_ringsOf he14 rcm r14 r9 rm) (by decide) ?_
          refine r_iret dX8_edge_145 rfl ?_
          exact ⟨rfl, rfl⟩
    · refine ⟨.int (-1), 1, by decide, ?_, ?_⟩
      · refine Con.mk (by decide) ?_
        show RT _ _ 0 [some (.ref 0), some (.int x), some (.int y)] [] _ _
        refine r_aload_0 dX7_edge_0 ?_
        refine r_getR (a := 15) dX7_edge_1 fl_X7_37 rfl rfl ?_
        refine r_iload_1 dX7_edge_4 ?_
        refine r_cV1 mX2_hasEdge dX7_edge_5 ml_X7_137 mo_X2_hasEdge rfl (k_X2_hasEdge isN15 h x) (by decide) ?_
        rw [i3.2.1, b2i_t hx]
        refine r_if_eq 21 dX7_edge_8 (by decide) (fun c_8 => by exact absurd c_8 (by decide)) (fun c_8 => ?_)
        refine r_iload_2 dX7_edge_11 ?_
        refine r_if_lt 21 dX7_edge_12 (by decide) (fun c_12 => ?_) (fun c_12 => ?_)
        · refine r_aload_0 dX7_edge_21 ?_
          refine r_iconst (v := 1) dX7_edge_22 (by decide) ?_
          refine r_cV1 mX7_refuse dX7_edge_23 ml_X7_65 mo_X7_refuse rfl (k_refuse h 1) (by decide) ?_
          refine r_iret dX7_edge_26 rfl ?_
          exact ⟨rfl, rfl⟩
        · refine r_iload_2 dX7_edge_15 ?_
          refine r_bipush (v := nI 7) dX7_edge_16 (by decide) ?_
          refine r_icmp_le 27 dX7_edge_18 (by decide) (fun c_18 => ?_) (fun c_18 => ?_)
          · exact absurd (rng (by decide) c_12 c_18) hy
          · refine r_aload_0 dX7_edge_21 ?_
            refine r_iconst (v := 1) dX7_edge_22 (by decide) ?_
            refine r_cV1 mX7_refuse dX7_edge_23 ml_X7_65 mo_X7_refuse rfl (k_refuse h 1) (by decide) ?_
            refine r_iret dX7_edge_26 rfl ?_
            exact ⟨rfl, rfl⟩
      · refine Con.mk (by decide) ?_
        show RT _ _ 0 [some (.ref 74), some (.int x), some (.int y)] [] _ _
        refine r_aload_0 dX8_edge_0 ?_
        refine r_aload_0 dX8_edge_1 ?_
        refine r_iload_1 dX8_edge_2 ?_
        refine r_cV1 mX8_isEdge dX8_edge_3 ml_X8_317 mo_X8_isEdge rfl (q_isEdge _ hb.2 (f7 1) _) (by decide) ?_
        rw [b2i_t hx]
        refine r_if_eq 25 dX8_edge_6 (by decide) (fun c_6 => by exact absurd c_6 (by decide)) (fun c_6 => ?_)
        refine r_iload_2 dX8_edge_9 ?_
        refine r_i2l dX8_edge_10 ?_
        refine r_lconst (v := 0) dX8_edge_11 (by decide) ?_
        refine r_ldc2 dX8_edge_12 ks_X8_397 ?_
        refine r_cS3 mX8_in dX8_edge_15 ml_X8_131 mo_X8_in (q_in _ _ _ _) (by decide) ?_
        rw [b2i_f (fun q => hy ((in_k (n := 7) (by decide +kernel) (by decide)).mp q))]
        refine r_if_eq 25 dX8_edge_18 (by decide) (fun c_18 => ?_) (fun c_18 => by exact absurd rfl c_18)
        refine r_iconst (v := 0) dX8_edge_25 (by decide) ?_
        refine r_cS1 mX8_unless dX8_edge_26 ml_X8_330 mo_X8_unless (q_unless _ _) (by decide) ?_
        rw [un0]
        refine r_cV1 mX8_isRefused dX8_edge_29 ml_X8_245 mo_X8_isRefused rfl (q_isRefused _ _) (by decide) ?_
        rw [b2i_t (by decide)]
        refine r_if_eq 37 dX8_edge_32 (by decide) (fun c_32 => by exact absurd c_32 (by decide)) (fun c_32 => ?_)
        refine r_iconst (v := (-1)) dX8_edge_35 (by decide) ?_
        refine r_iret dX8_edge_36 rfl ?_
        exact ⟨rfl, rfl⟩
  · refine ⟨.int (-1), 1, by decide, ?_, ?_⟩
    · refine Con.mk (by decide) ?_
      show RT _ _ 0 [some (.ref 0), some (.int x), some (.int y)] [] _ _
      refine r_aload_0 dX7_edge_0 ?_
      refine r_getR (a := 15) dX7_edge_1 fl_X7_37 rfl rfl ?_
      refine r_iload_1 dX7_edge_4 ?_
      refine r_cV1 mX2_hasEdge dX7_edge_5 ml_X7_137 mo_X2_hasEdge rfl (k_X2_hasEdge isN15 h x) (by decide) ?_
      rw [i3.2.1, b2i_f hx]
      refine r_if_eq 21 dX7_edge_8 (by decide) (fun c_8 => ?_) (fun c_8 => by exact absurd rfl c_8)
      refine r_aload_0 dX7_edge_21 ?_
      refine r_iconst (v := 1) dX7_edge_22 (by decide) ?_
      refine r_cV1 mX7_refuse dX7_edge_23 ml_X7_65 mo_X7_refuse rfl (k_refuse h 1) (by decide) ?_
      refine r_iret dX7_edge_26 rfl ?_
      exact ⟨rfl, rfl⟩
    · refine Con.mk (by decide) ?_
      show RT _ _ 0 [some (.ref 74), some (.int x), some (.int y)] [] _ _
      refine r_aload_0 dX8_edge_0 ?_
      refine r_aload_0 dX8_edge_1 ?_
      refine r_iload_1 dX8_edge_2 ?_
      refine r_cV1 mX8_isEdge dX8_edge_3 ml_X8_317 mo_X8_isEdge rfl (q_isEdge _ hb.2 (f7 1) _) (by decide) ?_
      rw [b2i_f hx]
      refine r_if_eq 25 dX8_edge_6 (by decide) (fun c_6 => ?_) (fun c_6 => by exact absurd rfl c_6)
      refine r_iconst (v := 0) dX8_edge_25 (by decide) ?_
      refine r_cS1 mX8_unless dX8_edge_26 ml_X8_330 mo_X8_unless (q_unless _ _) (by decide) ?_
      rw [un0]
      refine r_cV1 mX8_isRefused dX8_edge_29 ml_X8_245 mo_X8_isRefused rfl (q_isRefused _ _) (by decide) ?_
      rw [b2i_t (by decide)]
      refine r_if_eq 37 dX8_edge_32 (by decide) (fun c_32 => by exact absurd c_32 (by decide)) (fun c_32 => ?_)
      refine r_iconst (v := (-1)) dX8_edge_35 (by decide) ?_
      refine r_iret dX8_edge_36 rfl ?_
      exact ⟨rfl, rfl⟩

set_option maxRecDepth 100000 in
set_option maxHeartbeats 4000000 in
theorem o_joint {h : PH} (i : INV h) (x : Int32) (y : Int32) : Same mX7_joint 2 [.ref 0, .int x, .int y] mX8_joint 3 [.ref 74, .int x, .int y] h := by
  obtain ⟨n, bs, tr, fl, wp, t, nm, ac, ms, i1, i2, i3, i4, i5, i6⟩ := i
  have hb := i3.e
  have f6 : ∀ y, (clH h y).1 74 6 = nI (NT.J t) := fun y => by rw [clH_1 (by decide)]; exact i6.1
  have f7 : ∀ y, (clH h y).1 74 7 = nI (NT.E t) := fun y => by rw [clH_1 (by decide)]; exact i6.2.1
  by_cases hx : 0 ≤ x ∧ x < nI (NT.J t)
  · by_cases hy : 0 ≤ y ∧ y < nI (3 + 1)
    · obtain ⟨e, he, rfl⟩ := ex_nat hb.1 hx
      obtain ⟨c, hc, rfl⟩ := ex_nat2 (by decide) hy
      have hJ : 0 < NT.J t := by omega
      obtain ⟨tx, nok, mok, sc, nac, acc, mec⟩ := (i3.k (clH_kC (x := 0))).2.2.2 hJ
      have ok := tx.1
      have hE14 := ok.2.2.1
      have hJ9 := ok.2.1
      obtain ⟨nc, s9, s10, s12, s11, tc, rc, flc, hdc⟩ := sc
      obtain ⟨-, -, m44, m46, -, mm⟩ := (i6.k (clH_kM (x := 0))).rf 0
      obtain ⟨rwm, sm, nam, acm, mem⟩ := mm hJ
      obtain ⟨ncm, p28, p39, p41, p40, tcm, rcm, flm, hdm⟩ := sm
      have k0 : (clH h 0).1 15 0 = nI (NT.J t) := nc.1
      have k1 : (clH h 0).1 15 1 = nI (NT.E t) := nc.2.1
      have k31 : (clH h 0).1 31 0 = nI (rgS (snOf t) (solveS (snOf t)).1).length := rc.1
      have a68 : (clH h 0).1 68 0 = nI ac.length := acc.1
      have n9 := mok.n9 ok
      obtain ⟨n1, n2⟩ := nc.2.2.2.2.1 e he
      have g1 : (clH h 0).1 17 e = NT.dr t e := n1
      have g2 : (clH h 0).1 18 e = NT.ht t e := n2
      obtain ⟨q1, q2⟩ := rwm.2.2.2.1 e he
      have he9 : e < 9 := by omega
      have g3 : (clH h 0).1 28 e = (trS (snOf t) (solveS (snOf t)).1).2.2.1 e := tc.2.2.2.2.1 e he9
      have hcc : c = 0 ∨ c = 1 ∨ c = 2 ∨ c = 3 := by omega
      rcases hcc with rfl | rfl | rfl | rfl
      · refine ⟨.int (NT.dr t e), 0, by decide, ?_, ?_⟩
        · refine Con.mk (by decide) ?_
          show RT _ _ 0 [some (.ref 0), some (.int (nI e)), some (.int (nI 0))] [] _ _
          refine r_aload_0 dX7_joint_0 ?_
          refine r_getR (a := 15) dX7_joint_1 fl_X7_37 rfl rfl ?_
          refine r_iload_1 dX7_joint_4 ?_
          refine r_cV1 mX2_hasJoint dX7_joint_5 ml_X7_183 mo_X2_hasJoint rfl (k_X2_hasJoint isN15 h (nI e)) (by decide) ?_
          rw [i3.1, b2i_t hx]
          refine r_if_eq 20 dX7_joint_8 (by decide) (fun c_8 => by exact absurd c_8 (by decide)) (fun c_8 => ?_)
          refine r_iload_2 dX7_joint_11 ?_
          refine r_if_lt 20 dX7_joint_12 (by decide) (fun c_12 => by exact absurd c_12 (by decide)) (fun c_12 => ?_)
          refine r_iload_2 dX7_joint_15 ?_
          refine r_iconst (v := 3) dX7_joint_16 (by decide) ?_
          refine r_icmp_le 26 dX7_joint_17 (by decide) (fun c_17 => ?_) (fun c_17 => by exact absurd (show nI 0 ≤ 3 by decide) c_17)
          refine r_aload_0 dX7_joint_26 ?_
          refine r_cW0 mX7_allow dX7_joint_27 ml_X7_79 mo_X7_allow rfl (k_allow h) (by decide) ?_
          refine r_iload_2 dX7_joint_30 ?_
          refine r_tabIn (x := nI 0) 56 dX7_joint_31 (by decide +kernel) (by decide +kernel) rfl (by decide) ?_
          refine r_aload_0 dX7_joint_56 ?_
          refine r_getR (a := 15) dX7_joint_57 fl_X7_37 rfl rfl ?_
          refine r_getR (a := 17) dX7_joint_60 fl_X7_186 rfl rfl ?_
          refine r_iload_1 dX7_joint_63 ?_
          refine r_ialdN dX7_joint_64 rfl (by omega) ?_
          rw [g1]
          refine r_iret dX7_joint_65 rfl ?_
          exact ⟨rfl, rfl⟩
        · refine Con.mk (by decide) ?_
          show RT _ _ 0 [some (.ref 74), some (.int (nI e)), some (.int (nI 0))] [] _ _
          refine r_aload_0 dX8_joint_0 ?_
          refine r_aload_0 dX8_joint_1 ?_
          refine r_iload_1 dX8_joint_2 ?_
          refine r_cV1 mX8_isJoint dX8_joint_3 ml_X8_327 mo_X8_isJoint rfl (q_isJoint _ hb.1 (f6 0) _) (by decide) ?_
          rw [b2i_t hx]
          refine r_if_eq 25 dX8_joint_6 (by decide) (fun c_6 => by exact absurd c_6 (by decide)) (fun c_6 => ?_)
          refine r_iload_2 dX8_joint_9 ?_
          refine r_i2l dX8_joint_10 ?_
          refine r_lconst (v := 0) dX8_joint_11 (by decide) ?_
          refine r_ldc2 dX8_joint_12 ks_X8_402 ?_
          refine r_cS3 mX8_in dX8_joint_15 ml_X8_131 mo_X8_in (q_in _ _ _ _) (by decide) ?_
          rw [b2i_t (by decide +kernel)]
          refine r_if_eq 25 dX8_joint_18 (by decide) (fun c_18 => by exact absurd c_18 (by decide)) (fun c_18 => ?_)
          refine r_iconst (v := 1) dX8_joint_21 (by decide) ?_
          refine r_goto 26 dX8_joint_22 (by decide) ?_
          refine r_cS1 mX8_unless dX8_joint_26 ml_X8_330 mo_X8_unless (q_unless _ _) (by decide) ?_
          rw [un1]
          refine r_cV1 mX8_isRefused dX8_joint_29 ml_X8_245 mo_X8_isRefused rfl (q_isRefused _ _) (by decide) ?_
          rw [b2i_f (by decide)]
          refine r_if_eq 37 dX8_joint_32 (by decide) (fun c_32 => ?_) (fun c_32 => by exact absurd rfl c_32)
          refine r_iload_2 dX8_joint_37 ?_
          refine r_tabIn (x := nI 0) 64 dX8_joint_38 (by decide +kernel) (by decide +kernel) rfl (by decide) ?_
          refine r_iload_1 dX8_joint_64 ?_
          refine r_if_ne 72 dX8_joint_65 (by decide) (fun c_65 => ?_) (fun c_65 => ?_)
          · refine r_aload_0 dX8_joint_72 ?_
            refine r_getR (a := 76) dX8_joint_73 fl_X8_19 rfl rfl ?_
            refine r_iload_1 dX8_joint_76 ?_
            refine r_ialdN dX8_joint_77 rfl (by omega) ?_
            rw [q1]
            refine r_iret dX8_joint_78 rfl ?_
            exact ⟨by first | (rw [show tdM t e = NT.dr t e from if_neg (fun q => c_65 (by rw [q]; rfl))]; done) | (rw [show e = 0 from by by_cases q : e = 0; exact q; exact absurd c_65 (nI_nz (by omega) q), tx.2.2.1]; done), rfl⟩
          · refine r_iconst (v := 0) dX8_joint_68 (by decide) ?_
            refine r_goto 78 dX8_joint_69 (by decide) ?_
            refine r_iret dX8_joint_78 rfl ?_
            exact ⟨by first | (rw [show tdM t e = NT.dr t e from if_neg (fun q => c_65 (by rw [q]; rfl))]; done) | (rw [show e = 0 from by by_cases q : e = 0; exact q; exact absurd c_65 (nI_nz (by omega) q), tx.2.2.1]; done), rfl⟩
      · refine ⟨.int (100 * NT.ht t e), 0, by decide, ?_, ?_⟩
        · refine Con.mk (by decide) ?_
          show RT _ _ 0 [some (.ref 0), some (.int (nI e)), some (.int (nI 1))] [] _ _
          refine r_aload_0 dX7_joint_0 ?_
          refine r_getR (a := 15) dX7_joint_1 fl_X7_37 rfl rfl ?_
          refine r_iload_1 dX7_joint_4 ?_
          refine r_cV1 mX2_hasJoint dX7_joint_5 ml_X7_183 mo_X2_hasJoint rfl (k_X2_hasJoint isN15 h (nI e)) (by decide) ?_
          rw [i3.1, b2i_t hx]
          refine r_if_eq 20 dX7_joint_8 (by decide) (fun c_8 => by exact absurd c_8 (by decide)) (fun c_8 => ?_)
          refine r_iload_2 dX7_joint_11 ?_
          refine r_if_lt 20 dX7_joint_12 (by decide) (fun c_12 => by exact absurd c_12 (by decide)) (fun c_12 => ?_)
          refine r_iload_2 dX7_joint_15 ?_
          refine r_iconst (v := 3) dX7_joint_16 (by decide) ?_
          refine r_icmp_le 26 dX7_joint_17 (by decide) (fun c_17 => ?_) (fun c_17 => by exact absurd (show nI 1 ≤ 3 by decide) c_17)
          refine r_aload_0 dX7_joint_26 ?_
          refine r_cW0 mX7_allow dX7_joint_27 ml_X7_79 mo_X7_allow rfl (k_allow h) (by decide) ?_
          refine r_iload_2 dX7_joint_30 ?_
          refine r_tabIn (x := nI 1) 66 dX7_joint_31 (by decide +kernel) (by decide +kernel) rfl (by decide) ?_
          refine r_bipush (v := 100) dX7_joint_66 (by decide) ?_
          refine r_aload_0 dX7_joint_68 ?_
          refine r_getR (a := 15) dX7_joint_69 fl_X7_37 rfl rfl ?_
          refine r_getR (a := 18) dX7_joint_72 fl_X7_189 rfl rfl ?_
          refine r_iload_1 dX7_joint_75 ?_
          refine r_ialdN dX7_joint_76 rfl (by omega) ?_
          rw [g2]
          refine r_imul dX7_joint_77 ?_
          refine r_iret dX7_joint_78 rfl ?_
          exact ⟨rfl, rfl⟩
        · refine Con.mk (by decide) ?_
          show RT _ _ 0 [some (.ref 74), some (.int (nI e)), some (.int (nI 1))] [] _ _
          refine r_aload_0 dX8_joint_0 ?_
          refine r_aload_0 dX8_joint_1 ?_
          refine r_iload_1 dX8_joint_2 ?_
          refine r_cV1 mX8_isJoint dX8_joint_3 ml_X8_327 mo_X8_isJoint rfl (q_isJoint _ hb.1 (f6 0) _) (by decide) ?_
          rw [b2i_t hx]
          refine r_if_eq 25 dX8_joint_6 (by decide) (fun c_6 => by exact absurd c_6 (by decide)) (fun c_6 => ?_)
          refine r_iload_2 dX8_joint_9 ?_
          refine r_i2l dX8_joint_10 ?_
          refine r_lconst (v := 0) dX8_joint_11 (by decide) ?_
          refine r_ldc2 dX8_joint_12 ks_X8_402 ?_
          refine r_cS3 mX8_in dX8_joint_15 ml_X8_131 mo_X8_in (q_in _ _ _ _) (by decide) ?_
          rw [b2i_t (by decide +kernel)]
          refine r_if_eq 25 dX8_joint_18 (by decide) (fun c_18 => by exact absurd c_18 (by decide)) (fun c_18 => ?_)
          refine r_iconst (v := 1) dX8_joint_21 (by decide) ?_
          refine r_goto 26 dX8_joint_22 (by decide) ?_
          refine r_cS1 mX8_unless dX8_joint_26 ml_X8_330 mo_X8_unless (q_unless _ _) (by decide) ?_
          rw [un1]
          refine r_cV1 mX8_isRefused dX8_joint_29 ml_X8_245 mo_X8_isRefused rfl (q_isRefused _ _) (by decide) ?_
          rw [b2i_f (by decide)]
          refine r_if_eq 37 dX8_joint_32 (by decide) (fun c_32 => ?_) (fun c_32 => by exact absurd rfl c_32)
          refine r_iload_2 dX8_joint_37 ?_
          refine r_tabIn (x := nI 1) 79 dX8_joint_38 (by decide +kernel) (by decide +kernel) rfl (by decide) ?_
          refine r_bipush (v := 100) dX8_joint_79 (by decide) ?_
          refine r_aload_0 dX8_joint_81 ?_
          refine r_getR (a := 77) dX8_joint_82 fl_X8_22 rfl rfl ?_
          refine r_iload_1 dX8_joint_85 ?_
          refine r_ialdN dX8_joint_86 rfl (by omega) ?_
          rw [q2]
          refine r_imul dX8_joint_87 ?_
          refine r_iret dX8_joint_88 rfl ?_
          exact ⟨rfl, rfl⟩
      · refine ⟨.int ((trS (snOf t) (solveS (snOf t)).1).2.2.1 e), 0, by decide, ?_, ?_⟩
        · refine Con.mk (by decide) ?_
          show RT _ _ 0 [some (.ref 0), some (.int (nI e)), some (.int (nI 2))] [] _ _
          refine r_aload_0 dX7_joint_0 ?_
          refine r_getR (a := 15) dX7_joint_1 fl_X7_37 rfl rfl ?_
          refine r_iload_1 dX7_joint_4 ?_
          refine r_cV1 mX2_hasJoint dX7_joint_5 ml_X7_183 mo_X2_hasJoint rfl (k_X2_hasJoint isN15 h (nI e)) (by decide) ?_
          rw [i3.1, b2i_t hx]
          refine r_if_eq 20 dX7_joint_8 (by decide) (fun c_8 => by exact absurd c_8 (by decide)) (fun c_8 => ?_)
          refine r_iload_2 dX7_joint_11 ?_
          refine r_if_lt 20 dX7_joint_12 (by decide) (fun c_12 => by exact absurd c_12 (by decide)) (fun c_12 => ?_)
          refine r_iload_2 dX7_joint_15 ?_
          refine r_iconst (v := 3) dX7_joint_16 (by decide) ?_
          refine r_icmp_le 26 dX7_joint_17 (by decide) (fun c_17 => ?_) (fun c_17 => by exact absurd (show nI 2 ≤ 3 by decide) c_17)
          refine r_aload_0 dX7_joint_26 ?_
          refine r_cW0 mX7_allow dX7_joint_27 ml_X7_79 mo_X7_allow rfl (k_allow h) (by decide) ?_
          refine r_iload_2 dX7_joint_30 ?_
          refine r_tabIn (x := nI 2) 79 dX7_joint_31 (by decide +kernel) (by decide +kernel) rfl (by decide) ?_
          refine r_aload_0 dX7_joint_79 ?_
          refine r_getR (a := 14) dX7_joint_80 fl_X7_29 rfl rfl ?_
          refine r_getR (a := 25) dX7_joint_83 fl_X7_161 rfl rfl ?_
          refine r_getR (a := 28) dX7_joint_86 fl_X7_192 rfl rfl ?_
          refine r_iload_1 dX7_joint_89 ?_
          refine r_ialdN dX7_joint_90 rfl (by omega) ?_
          rw [g3]
          refine r_iret dX7_joint_91 rfl ?_
          exact ⟨rfl, rfl⟩
        · refine Con.mk (by decide) ?_
          show RT _ _ 0 [some (.ref 74), some (.int (nI e)), some (.int (nI 2))] [] _ _
          refine r_aload_0 dX8_joint_0 ?_
          refine r_aload_0 dX8_joint_1 ?_
          refine r_iload_1 dX8_joint_2 ?_
          refine r_cV1 mX8_isJoint dX8_joint_3 ml_X8_327 mo_X8_isJoint rfl (q_isJoint _ hb.1 (f6 0) _) (by decide) ?_
          rw [b2i_t hx]
          refine r_if_eq 25 dX8_joint_6 (by decide) (fun c_6 => by exact absurd c_6 (by decide)) (fun c_6 => ?_)
          refine r_iload_2 dX8_joint_9 ?_
          refine r_i2l dX8_joint_10 ?_
          refine r_lconst (v := 0) dX8_joint_11 (by decide) ?_
          refine r_ldc2 dX8_joint_12 ks_X8_402 ?_
          refine r_cS3 mX8_in dX8_joint_15 ml_X8_131 mo_X8_in (q_in _ _ _ _) (by decide) ?_
          rw [b2i_t (by decide +kernel)]
          refine r_if_eq 25 dX8_joint_18 (by decide) (fun c_18 => by exact absurd c_18 (by decide)) (fun c_18 => ?_)
          refine r_iconst (v := 1) dX8_joint_21 (by decide) ?_
          refine r_goto 26 dX8_joint_22 (by decide) ?_
          refine r_cS1 mX8_unless dX8_joint_26 ml_X8_330 mo_X8_unless (q_unless _ _) (by decide) ?_
          rw [un1]
          refine r_cV1 mX8_isRefused dX8_joint_29 ml_X8_245 mo_X8_isRefused rfl (q_isRefused _ _) (by decide) ?_
          rw [b2i_f (by decide)]
          refine r_if_eq 37 dX8_joint_32 (by decide) (fun c_32 => ?_) (fun c_32 => by exact absurd rfl c_32)
          refine r_iload_2 dX8_joint_37 ?_
          refine r_tabIn (x := nI 2) 89 dX8_joint_38 (by decide +kernel) (by decide +kernel) rfl (by decide) ?_
          refine r_aload_0 dX8_joint_89 ?_
          refine r_getR (a := 85) dX8_joint_90 fl_X8_46 rfl rfl ?_
          refine r_iload_1 dX8_joint_93 ?_
          refine r_ialdN dX8_joint_94 rfl (by omega) ?_
          rw [tcm.2.2.2 e he9]
          refine r_iret dX8_joint_95 rfl ?_
          exact ⟨rfl, rfl⟩
      · refine ⟨.int (eaS t e (NT.E t) 0 0), 0, by decide, ?_, ?_⟩
        · refine Con.mk (by decide) ?_
          show RT _ _ 0 [some (.ref 0), some (.int (nI e)), some (.int (nI 3))] [] _ _
          refine r_aload_0 dX7_joint_0 ?_
          refine r_getR (a := 15) dX7_joint_1 fl_X7_37 rfl rfl ?_
          refine r_iload_1 dX7_joint_4 ?_
          refine r_cV1 mX2_hasJoint dX7_joint_5 ml_X7_183 mo_X2_hasJoint rfl (k_X2_hasJoint isN15 h (nI e)) (by decide) ?_
          rw [i3.1, b2i_t hx]
          refine r_if_eq 20 dX7_joint_8 (by decide) (fun c_8 => by exact absurd c_8 (by decide)) (fun c_8 => ?_)
          refine r_iload_2 dX7_joint_11 ?_
          refine r_if_lt 20 dX7_joint_12 (by decide) (fun c_12 => by exact absurd c_12 (by decide)) (fun c_12 => ?_)
          refine r_iload_2 dX7_joint_15 ?_
          refine r_iconst (v := 3) dX7_joint_16 (by decide) ?_
          refine r_icmp_le 26 dX7_joint_17 (by decide) (fun c_17 => ?_) (fun c_17 => by exact absurd (show nI 3 ≤ 3 by decide) c_17)
          refine r_aload_0 dX7_joint_26 ?_
          refine r_cW0 mX7_allow dX7_joint_27 ml_X7_79 mo_X7_allow rfl (k_allow h) (by decide) ?_
          refine r_iload_2 dX7_joint_30 ?_
          refine r_tabOut (x := nI 3) 92 dX7_joint_31 (by decide +kernel) (by decide) ?_
          refine r_aload_0 dX7_joint_92 ?_
          refine r_getR (a := 15) dX7_joint_93 fl_X7_37 rfl rfl ?_
          refine r_iload_1 dX7_joint_96 ?_
          refine r_cV1 mX2_edgesAt dX7_joint_97 ml_X7_195 mo_X2_edgesAt rfl (k_edgesAt isN15 ok nc he9) (by decide) ?_
          refine r_iret dX7_joint_100 rfl ?_
          exact ⟨rfl, rfl⟩
        · refine Con.mk (by decide) ?_
          show RT _ _ 0 [some (.ref 74), some (.int (nI e)), some (.int (nI 3))] [] _ _
          refine r_aload_0 dX8_joint_0 ?_
          refine r_aload_0 dX8_joint_1 ?_
          refine r_iload_1 dX8_joint_2 ?_
          refine r_cV1 mX8_isJoint dX8_joint_3 ml_X8_327 mo_X8_isJoint rfl (q_isJoint _ hb.1 (f6 0) _) (by decide) ?_
          rw [b2i_t hx]
          refine r_if_eq 25 dX8_joint_6 (by decide) (fun c_6 => by exact absurd c_6 (by decide)) (fun c_6 => ?_)
          refine r_iload_2 dX8_joint_9 ?_
          refine r_i2l dX8_joint_10 ?_
          refine r_lconst (v := 0) dX8_joint_11 (by decide) ?_
          refine r_ldc2 dX8_joint_12 ks_X8_402 ?_
          refine r_cS3 mX8_in dX8_joint_15 ml_X8_131 mo_X8_in (q_in _ _ _ _) (by decide) ?_
          rw [b2i_t (by decide +kernel)]
          refine r_if_eq 25 dX8_joint_18 (by decide) (fun c_18 => by exact absurd c_18 (by decide)) (fun c_18 => ?_)
          refine r_iconst (v := 1) dX8_joint_21 (by decide) ?_
          refine r_goto 26 dX8_joint_22 (by decide) ?_
          refine r_cS1 mX8_unless dX8_joint_26 ml_X8_330 mo_X8_unless (q_unless _ _) (by decide) ?_
          rw [un1]
          refine r_cV1 mX8_isRefused dX8_joint_29 ml_X8_245 mo_X8_isRefused rfl (q_isRefused _ _) (by decide) ?_
          rw [b2i_f (by decide)]
          refine r_if_eq 37 dX8_joint_32 (by decide) (fun c_32 => ?_) (fun c_32 => by exact absurd rfl c_32)
          refine r_iload_2 dX8_joint_37 ?_
          refine r_tabOut (x := nI 3) 96 dX8_joint_38 (by decide +kernel) (by decide) ?_
          refine r_aload_0 dX8_joint_96 ?_
          refine r_iload_1 dX8_joint_97 ?_
          refine r_cV1 mX8_endsAt dX8_joint_98 ml_X8_404 mo_X8_endsAt rfl (q_endsAt ok ncm he9) (by decide) ?_
          refine r_iret dX8_joint_101 rfl ?_
          exact ⟨rfl, rfl⟩
    · refine ⟨.int (-1), 1, by decide, ?_, ?_⟩
      · refine Con.mk (by decide) ?_
        show RT _ _ 0 [some (.ref 0), some (.int x), some (.int y)] [] _ _
        refine r_aload_0 dX7_joint_0 ?_
        refine r_getR (a := 15) dX7_joint_1 fl_X7_37 rfl rfl ?_
        refine r_iload_1 dX7_joint_4 ?_
        refine r_cV1 mX2_hasJoint dX7_joint_5 ml_X7_183 mo_X2_hasJoint rfl (k_X2_hasJoint isN15 h x) (by decide) ?_
        rw [i3.1, b2i_t hx]
        refine r_if_eq 20 dX7_joint_8 (by decide) (fun c_8 => by exact absurd c_8 (by decide)) (fun c_8 => ?_)
        refine r_iload_2 dX7_joint_11 ?_
        refine r_if_lt 20 dX7_joint_12 (by decide) (fun c_12 => ?_) (fun c_12 => ?_)
        · refine r_aload_0 dX7_joint_20 ?_
          refine r_iconst (v := 1) dX7_joint_21 (by decide) ?_
          refine r_cV1 mX7_refuse dX7_joint_22 ml_X7_65 mo_X7_refuse rfl (k_refuse h 1) (by decide) ?_
          refine r_iret dX7_joint_25 rfl ?_
          exact ⟨rfl, rfl⟩
        · refine r_iload_2 dX7_joint_15 ?_
          refine r_iconst (v := nI 3) dX7_joint_16 (by decide) ?_
          refine r_icmp_le 26 dX7_joint_17 (by decide) (fun c_17 => ?_) (fun c_17 => ?_)
          · exact absurd (rng (by decide) c_12 c_17) hy
          · refine r_aload_0 dX7_joint_20 ?_
            refine r_iconst (v := 1) dX7_joint_21 (by decide) ?_
            refine r_cV1 mX7_refuse dX7_joint_22 ml_X7_65 mo_X7_refuse rfl (k_refuse h 1) (by decide) ?_
            refine r_iret dX7_joint_25 rfl ?_
            exact ⟨rfl, rfl⟩
      · refine Con.mk (by decide) ?_
        show RT _ _ 0 [some (.ref 74), some (.int x), some (.int y)] [] _ _
        refine r_aload_0 dX8_joint_0 ?_
        refine r_aload_0 dX8_joint_1 ?_
        refine r_iload_1 dX8_joint_2 ?_
        refine r_cV1 mX8_isJoint dX8_joint_3 ml_X8_327 mo_X8_isJoint rfl (q_isJoint _ hb.1 (f6 1) _) (by decide) ?_
        rw [b2i_t hx]
        refine r_if_eq 25 dX8_joint_6 (by decide) (fun c_6 => by exact absurd c_6 (by decide)) (fun c_6 => ?_)
        refine r_iload_2 dX8_joint_9 ?_
        refine r_i2l dX8_joint_10 ?_
        refine r_lconst (v := 0) dX8_joint_11 (by decide) ?_
        refine r_ldc2 dX8_joint_12 ks_X8_402 ?_
        refine r_cS3 mX8_in dX8_joint_15 ml_X8_131 mo_X8_in (q_in _ _ _ _) (by decide) ?_
        rw [b2i_f (fun q => hy ((in_k (n := 3) (by decide +kernel) (by decide)).mp q))]
        refine r_if_eq 25 dX8_joint_18 (by decide) (fun c_18 => ?_) (fun c_18 => by exact absurd rfl c_18)
        refine r_iconst (v := 0) dX8_joint_25 (by decide) ?_
        refine r_cS1 mX8_unless dX8_joint_26 ml_X8_330 mo_X8_unless (q_unless _ _) (by decide) ?_
        rw [un0]
        refine r_cV1 mX8_isRefused dX8_joint_29 ml_X8_245 mo_X8_isRefused rfl (q_isRefused _ _) (by decide) ?_
        rw [b2i_t (by decide)]
        refine r_if_eq 37 dX8_joint_32 (by decide) (fun c_32 => by exact absurd c_32 (by decide)) (fun c_32 => ?_)
        refine r_iconst (v := (-1)) dX8_joint_35 (by decide) ?_
        refine r_iret dX8_joint_36 rfl ?_
        exact ⟨rfl, rfl⟩
  · refine ⟨.int (-1), 1, by decide, ?_, ?_⟩
    · refine Con.mk (by decide) ?_
      show RT _ _ 0 [some (.ref 0), some (.int x), some (.int y)] [] _ _
      refine r_aload_0 dX7_joint_0 ?_
      refine r_getR (a := 15) dX7_joint_1 fl_X7_37 rfl rfl ?_
      refine r_iload_1 dX7_joint_4 ?_
      refine r_cV1 mX2_hasJoint dX7_joint_5 ml_X7_183 mo_X2_hasJoint rfl (k_X2_hasJoint isN15 h x) (by decide) ?_
      rw [i3.1, b2i_f hx]
      refine r_if_eq 20 dX7_joint_8 (by decide) (fun c_8 => ?_) (fun c_8 => by exact absurd rfl c_8)
      refine r_aload_0 dX7_joint_20 ?_
      refine r_iconst (v := 1) dX7_joint_21 (by decide) ?_
      refine r_cV1 mX7_refuse dX7_joint_22 ml_X7_65 mo_X7_refuse rfl (k_refuse h 1) (by decide) ?_
      refine r_iret dX7_joint_25 rfl ?_
      exact ⟨rfl, rfl⟩
    · refine Con.mk (by decide) ?_
      show RT _ _ 0 [some (.ref 74), some (.int x), some (.int y)] [] _ _
      refine r_aload_0 dX8_joint_0 ?_
      refine r_aload_0 dX8_joint_1 ?_
      refine r_iload_1 dX8_joint_2 ?_
      refine r_cV1 mX8_isJoint dX8_joint_3 ml_X8_327 mo_X8_isJoint rfl (q_isJoint _ hb.1 (f6 1) _) (by decide) ?_
      rw [b2i_f hx]
      refine r_if_eq 25 dX8_joint_6 (by decide) (fun c_6 => ?_) (fun c_6 => by exact absurd rfl c_6)
      refine r_iconst (v := 0) dX8_joint_25 (by decide) ?_
      refine r_cS1 mX8_unless dX8_joint_26 ml_X8_330 mo_X8_unless (q_unless _ _) (by decide) ?_
      rw [un0]
      refine r_cV1 mX8_isRefused dX8_joint_29 ml_X8_245 mo_X8_isRefused rfl (q_isRefused _ _) (by decide) ?_
      rw [b2i_t (by decide)]
      refine r_if_eq 37 dX8_joint_32 (by decide) (fun c_32 => by exact absurd c_32 (by decide)) (fun c_32 => ?_)
      refine r_iconst (v := (-1)) dX8_joint_35 (by decide) ?_
      refine r_iret dX8_joint_36 rfl ?_
      exact ⟨rfl, rfl⟩

