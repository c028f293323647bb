/-! ===== both: scaled ===== -/
theorem wkS_dr {t : NT} {f : Nat → Int32} {s : TS} {hd : FL} : ∀ (m j : Nat) (b : Option Nat), wkS (setDr t f) s hd m j b = wkS t s hd m j b := by
  intro m
  induction m with
  | zero => intro j b; rfl
  | succ m ih => intro j b; exact ih _ _
theorem lpA_dr {t : NT} {f : Nat → Int32} {s : TS} {hd : FL} : lpA (setDr t f) s hd = lpA t s hd := by
  have e : wkA (setDr t f) s hd = wkA t s hd := wkS_dr _ _ _
  unfold lpA lpS
  rw [e]
  rfl
theorem lp_sc {t : NT} {m : Nat} : lpN (scT t m) = lpA t (trS (snOf t) (solveS (snOf (scT t m))).1) (hdS (snOf (scT t m)) (solveS (snOf (scT t m))).1) := by
  unfold lpN
  rw [show trS (snOf (scT t m)) (solveS (snOf (scT t m))).1 = (trS (snOf t) (solveS (snOf (scT t m))).1) from tr_dr]
  exact lpA_dr
theorem pr_ne {t : NT} {hd : FL} (hb : FBd 144115188075855872 hd) (k : Nat) : prS t hd k ≠ -9223372036854775808 := by
  intro q
  have e0 : (-9223372036854775808 : Int64).toInt = -9223372036854775808 := by decide +kernel
  rw [fa_eq64, e0] at q
  unfold prS at q
  split at q
  · rw [show (0 : Int64).toInt = 0 by decide +kernel] at q; omega
  · have b := hb k
    have h1 := (NT.ht t k).le_toInt
    have h2 := (NT.ht t k).toInt_lt
    have e1 : (100 : Int64).toInt = 100 := by decide +kernel
    have e2 := fb_mulL (x := 100) (y := (NT.ht t k).toInt64) (by rw [e1, toInt64_toInt]; omega) (by rw [e1, toInt64_toInt]; omega)
    rw [e1, toInt64_toInt] at e2
    have e3 := fb_subL (x := hd k) (y := 100 * (NT.ht t k).toInt64) (by omega) (by omega)
    omega
theorem PC.of {h h' : PH} (f : Fr pap h h') (x : Int32) : PC h x (clH h' x) := fun y hy => by
  refine ⟨?_, (f y hy).2⟩
  by_cases q : y = 0
  · subst q
    funext k
    unfold clH
    rw [pI_1, pI_1, pI_1, pI_1, (f 0 hy).1]
  · rw [clH_1 q, clH_1 q]; exact (f y hy).1
theorem fm_say {h h' : PH} {x : Int32} (f : FM slS slG (rfH h x) h') (y : Int32) : FM slS slG (rfH h y) (pI h' 74 1 y) := by
  refine ⟨fun k hk => ?_, fun z h0 h1 => ⟨?_, (f.2.1 z h0 h1).2⟩, fun q => absurd (by unfold slG; omega) q⟩
  · by_cases q : k = 1
    · rw [q, pI_eq]; exact pI_eq.symm
    · rw [pI_ne 74 k (Or.inr q), f.1 k hk]
      unfold rfH
      rw [pI_ne 74 k (Or.inr q), pI_ne 74 k (Or.inr q)]
  · refine (funext fun j => pI_ne z j (Or.inl h0)).trans ?_
    rw [(f.2.1 z h0 h1).1, rfH_1 h0, rfH_1 h0]
set_option maxRecDepth 100000 in
set_option maxHeartbeats 4000000 in
theorem o_scaled {h : PH} (i : INV h) (n : Int32) : Same2 mX7_scaled 6 [.ref 0, .int n] mX8_scaled 8 [.ref 74, .int n] h := by
  have i0 := i
  obtain ⟨n0, bs, tr, fl, wp, t, nm, ac, ms, i1, i2, i3, i4, i5, i6⟩ := i
  have hb := i3.e
  have f6 : ∀ {h1 : PH} {y : Int32}, PC h y h1 → h1.1 74 6 = nI (NT.J t) := fun p => by rw [(p.kM 74 (by omega)).1]; exact i6.1
  have pr : ∀ y, PC h y (clH h y) := fun y => Fr.rf
  by_cases hJ : 0 < NT.J t
  · by_cases hn : (0 : Int32) ≤ n ∧ n ≤ 300
    · obtain ⟨m, hm, rfl⟩ := ex_le (k := 300) (by decide) hn
      obtain ⟨tx, nok, mok, sc, nac, acc, mec⟩ := i3.2.2.2 hJ
      have ok := tx.1
      have nc : NetC h 15 t := sc.1
      have hlp := lp_sc (t := t) (m := m)
      by_cases hd : dryS (NT.J t) (trS (snOf t) (solveS (snOf (scT t m))).1) = 0
      · obtain ⟨k, hk⟩ := wk_all (hd := (hdS (snOf (scT t m)) (solveS (snOf (scT t m))).1)) tx.2.1 ((dryS_0 ok.2.1).mp hd)
        have hkm := wkA_met hk
        have e1 : lpN (scT t m) = prS t (hdS (snOf (scT t m)) (solveS (snOf (scT t m))).1) k := by rw [hlp]; unfold lpA lpS; rw [if_pos hd, hk]
        have e2 : prS t (hdS (snOf (scT t m)) (solveS (snOf (scT t m))).1) k ≠ (-9223372036854775808) := pr_ne ((tx.sc hm).ok.hds _) k
        refine ⟨.long (prS t (hdS (snOf (scT t m)) (solveS (snOf (scT t m))).1) k), PC h 0, fun h1 h2 => SolM h2 t (solveS (snOf t)) ∧ h2.1 74 44 = -1 ∧ h2.1 74 46 = 100 ∧ FM slS slG (rfH h1 0) h2, ?_, fun h1 q => ?_, fun h1 h2 q z => inv_paper2 i1 i2 i3 i4 i5 (by decide) q z.2.2.2 (MX.fm2 ((i6.k q.kM).rf 0) z.1 z.2.1 z.2.2.1 z.2.2.2 hJ)⟩
        · refine Con.mk (by decide) ?_
          show RT _ _ 0 [some (.ref 0), some (.int (nI m)), none, none] [] _ _
          refine r_aload_0 dX7_scaled_0 ?_
          refine r_cV0 mX7_hasText dX7_scaled_1 ml_X7_101 mo_X7_hasText rfl (k_hasText hb.1 i3.1) (by decide) ?_
          rw [b2i_t hJ]
          refine r_if_ne 13 dX7_scaled_4 (by decide) (fun c_4 => ?_) (fun c_4 => by exact absurd c_4 (by decide))
          refine r_iload_1 dX7_scaled_13 ?_
          refine r_if_lt 24 dX7_scaled_14 (by decide) (fun c_14 => by exact absurd c_14 (nI_pos (by omega))) (fun c_14 => ?_)
          refine r_iload_1 dX7_scaled_17 ?_
          refine r_sipush (v := nI 300) dX7_scaled_18 (by decide) ?_
          refine r_icmpN_le 30 dX7_scaled_21 (by decide) (by omega) (by omega) (fun c_21 => ?_) (fun c_21 => by omega)
          refine r_aload_0 dX7_scaled_30 ?_
          refine r_getR (a := 42) dX7_scaled_31 fl_X7_41 rfl rfl ?_
          refine r_aload_0 dX7_scaled_34 ?_
          refine r_getR (a := 15) dX7_scaled_35 fl_X7_37 rfl rfl ?_
          refine r_cWQ1 mX2_copyFrom dX7_scaled_38 ml_X7_83 mo_X2_copyFrom rfl (k_copy_42_15 h) (by decide) (fun h2 p2 => ?_)
          have nc2 : NetC h2 42 t := p2.net ok nc
          have np : ∀ j, j < 10 → ¬ cpR 42 (15 + j) := fun j hj q => by have := q.1; omega
          have nc15 : NetC h2 15 t := nc.fr p2.2.2.2.2 np
          refine r_aload_0 dX7_scaled_41 ?_
          refine r_getR (a := 42) dX7_scaled_42 fl_X7_41 rfl rfl ?_
          refine r_aload_0 dX7_scaled_45 ?_
          refine r_getR (a := 15) dX7_scaled_46 fl_X7_37 rfl rfl ?_
          refine r_iload_1 dX7_scaled_49 ?_
          refine r_cVQ2 mX2_scaleDraws dX7_scaled_50 ml_X7_244 mo_X2_scaleDraws rfl (k_scale ok (n := m) nc15 (f := NT.dr t) nc2) (by decide) (fun h3 p3 => ?_)
          obtain ⟨nc3, f3⟩ := p3
          refine r_popi dX7_scaled_53 ?_
          refine r_aload_0 dX7_scaled_54 ?_
          refine r_getR (a := 41) dX7_scaled_55 fl_X7_38 rfl rfl ?_
          refine r_cWQ0 mX6_solve dX7_scaled_58 ml_X7_248 mo_X6_solve rfl (k_solve isW41 (tx.sc hm) nc3) (by decide) (fun h4 p4 => ?_)
          obtain ⟨s4, f4⟩ := p4
          have ff : Fr pap h h4 := ((p2.2.2.2.2.wk (fun _ q => cp_pap q)).tr (f3.wk (fun y q => ⟨by omega, by omega⟩))).tr (f4.wk (fun _ q => rg_pap q))
          refine r_aload_0 dX7_scaled_61 ?_
          refine r_getR (a := 41) dX7_scaled_62 fl_X7_38 rfl rfl ?_
          refine r_cV0 mX6_leastPressureOfAll dX7_scaled_65 ml_X7_251 mo_X6_leastPressureOfAll rfl (k_leastAll isW41 (tx.sc hm) _ s4.1 s4.2.2.2.2.2.1 _ (hd_at (tx.sc hm) _ s4.2.2.2.2.2.2.2.2)) (by decide) ?_
          rw [show lpA (scT t m) (trS (snOf (scT t m)) (solveS (snOf (scT t m))).1) (hdS (snOf (scT t m)) (solveS (snOf (scT t m))).1) = _ from e1]
          refine r_lstore_2 dX7_scaled_68 ?_
          refine r_lload_2 dX7_scaled_69 ?_
          refine r_ldc2 dX7_scaled_70 ks_X7_254 ?_
          refine r_lif_ne 83 dX7_scaled_73 dX7_scaled_74 (by decide) (fun c_73 => ?_) (fun c_73 => by exact absurd c_73 e2)
          refine r_aload_0 dX7_scaled_83 ?_
          refine r_cW0 mX7_allow dX7_scaled_84 ml_X7_79 mo_X7_allow rfl (k_allow h4) (by decide) ?_
          refine r_lload_2 dX7_scaled_87 ?_
          refine r_lret dX7_scaled_88 rfl ?_
          exact ⟨rfl, PC.of ff 0⟩
        · obtain ⟨-, -, m44, m46, -, mm⟩ := (i6.k q.kM).rf 0
          obtain ⟨rwm, sm, nam, acm, mem⟩ := mm hJ
          refine Con.mk (by decide) ?_
          show RT _ _ 0 [some (.ref 74), some (.int (nI m)), none, none, none] [] _ _
          refine r_aload_0 dX8_scaled_0 ?_
          refine r_aload_0 dX8_scaled_1 ?_
          refine r_getI dX8_scaled_2 fl_X8_229 rfl ?_
          rw [f6 q]
          refine r_if_le 12 dX8_scaled_5 (by decide) (fun c_5 => by exact absurd c_5 (nI_nle hJ (by omega))) (fun c_5 => ?_)
          refine r_iconst (v := 1) dX8_scaled_8 (by decide) ?_
          refine r_goto 13 dX8_scaled_9 (by decide) ?_
          refine r_iload_1 dX8_scaled_13 ?_
          refine r_i2l dX8_scaled_14 ?_
          refine r_lconst (v := 0) dX8_scaled_15 (by decide) ?_
          refine r_ldc2 dX8_scaled_16 ks_X8_438 ?_
          refine r_cS3 mX8_in dX8_scaled_19 ml_X8_131 mo_X8_in (q_in _ _ _ _) (by decide) ?_
          rw [b2i_c (in_w (a' := 0) (b' := 300) (by decide +kernel) (by decide +kernel)), b2i_t hn]
          refine r_cS2 mX8_unless_ dX8_scaled_22 ml_X8_241 mo_X8_unless_ (q_unless2 _ _ _) (by decide) ?_
          rw [show (if (1 : Int32) = 0 then (1 : Int32) else if (1 : Int32) = 0 then 2 else 0) = 0 by decide]
          refine r_cV1 mX8_isRefused dX8_scaled_25 ml_X8_245 mo_X8_isRefused rfl (q_isRefused _ _) (by decide) ?_
          rw [b2i_f (by decide)]
          refine r_if_eq 35 dX8_scaled_28 (by decide) (fun c_28 => ?_) (fun c_28 => by exact absurd rfl c_28)
          refine r_aload_0 dX8_scaled_35 ?_
          refine r_iload_1 dX8_scaled_36 ?_
          refine r_cWQ1 mX8_solvesShared dX8_scaled_37 ml_X8_440 mo_X8_solvesShared rfl (q_shared tx rwm m44 hm) (by decide) (fun h3 p3 => ?_)
          obtain ⟨⟨nc3, tc3, hd3⟩, e3, e4, f3⟩ := p3
          refine r_aload_0 dX8_scaled_40 ?_
          refine r_cV0 mX8_dryBits dX8_scaled_41 ml_X8_391 mo_X8_dryBits rfl (q_dry ok _ nc3 tc3) (by decide) ?_
          rw [hd]
          refine r_if_eq 51 dX8_scaled_44 (by decide) (fun c_44 => ?_) (fun c_44 => by exact absurd rfl c_44)
          refine r_iconst (v := 0) dX8_scaled_51 (by decide) ?_
          refine r_istore_2 dX8_scaled_52 ?_
          refine r_iload_2 dX8_scaled_53 ?_
          refine r_if_eq 61 dX8_scaled_54 (by decide) (fun c_54 => ?_) (fun c_54 => by exact absurd rfl c_54)
          refine r_aload_0 dX8_scaled_61 ?_
          refine r_aload_0 dX8_scaled_62 ?_
          refine r_cV0 mX8_weakestNow dX8_scaled_63 ml_X8_413 mo_X8_weakestNow rfl (q_weak ok _ nc3 tc3 _ hd3) (by decide) ?_
          rw [hk]
          refine r_cV1 mX8_pressureOf dX8_scaled_66 ml_X8_410 mo_X8_pressureOf rfl (q_press ok nc3 _ (j := k) (ok.met _ hkm.1) (hd3 k hkm.1)) (by decide) ?_
          refine r_lstore_3 dX8_scaled_69 ?_
          refine r_aload_0 dX8_scaled_70 ?_
          refine r_cWQ0 mX8_solves dX8_scaled_71 ml_X8_260 mo_X8_solves rfl (q_solves ok nc3) (by decide) (fun h4 p4 => ?_)
          obtain ⟨s4, f4⟩ := p4
          have e5 : h4.1 74 44 = -1 := (f4.1 44 (by unfold slF; omega)).trans e3
          have e6 : h4.1 74 46 = 100 := (f4.1 46 (by unfold slF; omega)).trans e4
          refine r_iload_2 dX8_scaled_74 ?_
          refine r_if_eq 86 dX8_scaled_75 (by decide) (fun c_75 => ?_) (fun c_75 => by exact absurd rfl c_75)
          refine r_lload_3 dX8_scaled_86 ?_
          refine r_lret dX8_scaled_87 rfl ?_
          exact ⟨rfl, s4, e5, e6, f3.tr f4.toG⟩
      · have e1 : lpN (scT t m) = (-9223372036854775808) := by rw [hlp]; unfold lpA; rw [if_neg hd]
        refine ⟨.long (-9223372036854775808), PC h 5, fun h1 h2 => SolM h2 t (solveS (snOf t)) ∧ h2.1 74 44 = -1 ∧ h2.1 74 46 = 100 ∧ FM slS slG (rfH h1 5) h2, ?_, fun h1 q => ?_, fun h1 h2 q z => inv_paper2 i1 i2 i3 i4 i5 (by decide) q z.2.2.2 (MX.fm2 ((i6.k q.kM).rf 5) z.1 z.2.1 z.2.2.1 z.2.2.2 hJ)⟩
        · refine Con.mk (by decide) ?_
          show RT _ _ 0 [some (.ref 0), some (.int (nI m)), none, none] [] _ _
          refine r_aload_0 dX7_scaled_0 ?_
          refine r_cV0 mX7_hasText dX7_scaled_1 ml_X7_101 mo_X7_hasText rfl (k_hasText hb.1 i3.1) (by decide) ?_
          rw [b2i_t hJ]
          refine r_if_ne 13 dX7_scaled_4 (by decide) (fun c_4 => ?_) (fun c_4 => by exact absurd c_4 (by decide))
          refine r_iload_1 dX7_scaled_13 ?_
          refine r_if_lt 24 dX7_scaled_14 (by decide) (fun c_14 => by exact absurd c_14 (nI_pos (by omega))) (fun c_14 => ?_)
          refine r_iload_1 dX7_scaled_17 ?_
          refine r_sipush (v := nI 300) dX7_scaled_18 (by decide) ?_
          refine r_icmpN_le 30 dX7_scaled_21 (by decide) (by omega) (by omega) (fun c_21 => ?_) (fun c_21 => by omega)
          refine r_aload_0 dX7_scaled_30 ?_
          refine r_getR (a := 42) dX7_scaled_31 fl_X7_41 rfl rfl ?_
          refine r_aload_0 dX7_scaled_34 ?_
          refine r_getR (a := 15) dX7_scaled_35 fl_X7_37 rfl rfl ?_
          refine r_cWQ1 mX2_copyFrom dX7_scaled_38 ml_X7_83 mo_X2_copyFrom rfl (k_copy_42_15 h) (by decide) (fun h2 p2 => ?_)
          have nc2 : NetC h2 42 t := p2.net ok nc
          have np : ∀ j, j < 10 → ¬ cpR 42 (15 + j) := fun j hj q => by have := q.1; omega
          have nc15 : NetC h2 15 t := nc.fr p2.2.2.2.2 np
          refine r_aload_0 dX7_scaled_41 ?_
          refine r_getR (a := 42) dX7_scaled_42 fl_X7_41 rfl rfl ?_
          refine r_aload_0 dX7_scaled_45 ?_
          refine r_getR (a := 15) dX7_scaled_46 fl_X7_37 rfl rfl ?_
          refine r_iload_1 dX7_scaled_49 ?_
          refine r_cVQ2 mX2_scaleDraws dX7_scaled_50 ml_X7_244 mo_X2_scaleDraws rfl (k_scale ok (n := m) nc15 (f := NT.dr t) nc2) (by decide) (fun h3 p3 => ?_)
          obtain ⟨nc3, f3⟩ := p3
          refine r_popi dX7_scaled_53 ?_
          refine r_aload_0 dX7_scaled_54 ?_
          refine r_getR (a := 41) dX7_scaled_55 fl_X7_38 rfl rfl ?_
          refine r_cWQ0 mX6_solve dX7_scaled_58 ml_X7_248 mo_X6_solve rfl (k_solve isW41 (tx.sc hm) nc3) (by decide) (fun h4 p4 => ?_)
          obtain ⟨s4, f4⟩ := p4
          have ff : Fr pap h h4 := ((p2.2.2.2.2.wk (fun _ q => cp_pap q)).tr (f3.wk (fun y q => ⟨by omega, by omega⟩))).tr (f4.wk (fun _ q => rg_pap q))
          refine r_aload_0 dX7_scaled_61 ?_
          refine r_getR (a := 41) dX7_scaled_62 fl_X7_38 rfl rfl ?_
          refine r_cV0 mX6_leastPressureOfAll dX7_scaled_65 ml_X7_251 mo_X6_leastPressureOfAll rfl (k_leastAll isW41 (tx.sc hm) _ s4.1 s4.2.2.2.2.2.1 _ (hd_at (tx.sc hm) _ s4.2.2.2.2.2.2.2.2)) (by decide) ?_
          rw [show lpA (scT t m) (trS (snOf (scT t m)) (solveS (snOf (scT t m))).1) (hdS (snOf (scT t m)) (solveS (snOf (scT t m))).1) = _ from e1]
          refine r_lstore_2 dX7_scaled_68 ?_
          refine r_lload_2 dX7_scaled_69 ?_
          refine r_ldc2 dX7_scaled_70 ks_X7_254 ?_
          refine r_lif_ne 83 dX7_scaled_73 dX7_scaled_74 (by decide) (fun c_73 => by exact absurd rfl c_73) (fun c_73 => ?_)
          refine r_aload_0 dX7_scaled_77 ?_
          refine r_iconst (v := 5) dX7_scaled_78 (by decide) ?_
          refine r_cV1 mX7_refuseLong dX7_scaled_79 ml_X7_171 mo_X7_refuseLong rfl (k_refuseL h4 5) (by decide) ?_
          refine r_lret dX7_scaled_82 rfl ?_
          exact ⟨rfl, PC.of ff 5⟩
        · obtain ⟨-, -, m44, m46, -, mm⟩ := (i6.k q.kM).rf 0
          obtain ⟨rwm, sm, nam, acm, mem⟩ := mm hJ
          refine Con.mk (by decide) ?_
          show RT _ _ 0 [some (.ref 74), some (.int (nI m)), none, none, none] [] _ _
          refine r_aload_0 dX8_scaled_0 ?_
          refine r_aload_0 dX8_scaled_1 ?_
          refine r_getI dX8_scaled_2 fl_X8_229 rfl ?_
          rw [f6 q]
          refine r_if_le 12 dX8_scaled_5 (by decide) (fun c_5 => by exact absurd c_5 (nI_nle hJ (by omega))) (fun c_5 => ?_)
          refine r_iconst (v := 1) dX8_scaled_8 (by decide) ?_
          refine r_goto 13 dX8_scaled_9 (by decide) ?_
          refine r_iload_1 dX8_scaled_13 ?_
          refine r_i2l dX8_scaled_14 ?_
          refine r_lconst (v := 0) dX8_scaled_15 (by decide) ?_
          refine r_ldc2 dX8_scaled_16 ks_X8_438 ?_
          refine r_cS3 mX8_in dX8_scaled_19 ml_X8_131 mo_X8_in (q_in _ _ _ _) (by decide) ?_
          rw [b2i_c (in_w (a' := 0) (b' := 300) (by decide +kernel) (by decide +kernel)), b2i_t hn]
          refine r_cS2 mX8_unless_ dX8_scaled_22 ml_X8_241 mo_X8_unless_ (q_unless2 _ _ _) (by decide) ?_
          rw [show (if (1 : Int32) = 0 then (1 : Int32) else if (1 : Int32) = 0 then 2 else 0) = 0 by decide]
          refine r_cV1 mX8_isRefused dX8_scaled_25 ml_X8_245 mo_X8_isRefused rfl (q_isRefused _ _) (by decide) ?_
          rw [b2i_f (by decide)]
          refine r_if_eq 35 dX8_scaled_28 (by decide) (fun c_28 => ?_) (fun c_28 => by exact absurd rfl c_28)
          refine r_aload_0 dX8_scaled_35 ?_
          refine r_iload_1 dX8_scaled_36 ?_
          refine r_cWQ1 mX8_solvesShared dX8_scaled_37 ml_X8_440 mo_X8_solvesShared rfl (q_shared tx rwm m44 hm) (by decide) (fun h3 p3 => ?_)
          obtain ⟨⟨nc3, tc3, hd3⟩, e3, e4, f3⟩ := p3
          refine r_aload_0 dX8_scaled_40 ?_
          refine r_cV0 mX8_dryBits dX8_scaled_41 ml_X8_391 mo_X8_dryBits rfl (q_dry ok _ nc3 tc3) (by decide) ?_
          refine r_if_eq 51 dX8_scaled_44 (by decide) (fun c_44 => by exact absurd c_44 hd) (fun c_44 => ?_)
          refine r_iconst (v := 1) dX8_scaled_47 (by decide) ?_
          refine r_goto 52 dX8_scaled_48 (by decide) ?_
          refine r_istore_2 dX8_scaled_52 ?_
          refine r_iload_2 dX8_scaled_53 ?_
          refine r_if_eq 61 dX8_scaled_54 (by decide) (fun c_54 => by exact absurd c_54 (by decide)) (fun c_54 => ?_)
          refine r_lconst (v := 0) dX8_scaled_57 (by decide) ?_
          refine r_goto 69 dX8_scaled_58 (by decide) ?_
          refine r_lstore_3 dX8_scaled_69 ?_
          refine r_aload_0 dX8_scaled_70 ?_
          refine r_cWQ0 mX8_solves dX8_scaled_71 ml_X8_260 mo_X8_solves rfl (q_solves ok nc3) (by decide) (fun h4 p4 => ?_)
          obtain ⟨s4, f4⟩ := p4
          have e5 : h4.1 74 44 = -1 := (f4.1 44 (by unfold slF; omega)).trans e3
          have e6 : h4.1 74 46 = 100 := (f4.1 46 (by unfold slF; omega)).trans e4
          refine r_iload_2 dX8_scaled_74 ?_
          refine r_if_eq 86 dX8_scaled_75 (by decide) (fun c_75 => by exact absurd c_75 (by decide)) (fun c_75 => ?_)
          refine r_aload_0 dX8_scaled_78 ?_
          refine r_iconst (v := 5) dX8_scaled_79 (by decide) ?_
          refine r_cV1 mX8_nothing dX8_scaled_80 ml_X8_407 mo_X8_nothing rfl (q_nothing h4 5) (by decide) ?_
          refine r_goto 87 dX8_scaled_83 (by decide) ?_
          refine r_lret dX8_scaled_87 rfl ?_
          exact ⟨rfl, s4.f2 5 (by omega), (pI_ne 74 44 (Or.inr (by decide))).trans e5, (pI_ne 74 46 (Or.inr (by decide))).trans e6, fm_say (f3.tr f4.toG) 5⟩
    · refine Same.to2 i0 ⟨.long (-9223372036854775808), 2, by decide, ?_, ?_⟩
      · refine Con.mk (by decide) ?_
        show RT _ _ 0 [some (.ref 0), some (.int n), none, none] [] _ _
        refine r_aload_0 dX7_scaled_0 ?_
        refine r_cV0 mX7_hasText dX7_scaled_1 ml_X7_101 mo_X7_hasText rfl (k_hasText hb.1 i3.1) (by decide) ?_
        rw [b2i_t hJ]
        refine r_if_ne 13 dX7_scaled_4 (by decide) (fun c_4 => ?_) (fun c_4 => by exact absurd c_4 (by decide))
        refine r_iload_1 dX7_scaled_13 ?_
        refine r_if_lt 24 dX7_scaled_14 (by decide) (fun c_14 => ?_) (fun c_14 => ?_)
        · refine r_aload_0 dX7_scaled_24 ?_
          refine r_iconst (v := 2) dX7_scaled_25 (by decide) ?_
          refine r_cV1 mX7_refuseLong dX7_scaled_26 ml_X7_171 mo_X7_refuseLong rfl (k_refuseL h 2) (by decide) ?_
          refine r_lret dX7_scaled_29 rfl ?_
          exact ⟨rfl, rfl⟩
        · refine r_iload_1 dX7_scaled_17 ?_
          refine r_sipush (v := 300) dX7_scaled_18 (by decide) ?_
          refine r_icmp_le 30 dX7_scaled_21 (by decide) (fun c_21 => ?_) (fun c_21 => ?_)
          · exact absurd ⟨ge_of_nlt c_14, c_21⟩ hn
          · refine r_aload_0 dX7_scaled_24 ?_
            refine r_iconst (v := 2) dX7_scaled_25 (by decide) ?_
            refine r_cV1 mX7_refuseLong dX7_scaled_26 ml_X7_171 mo_X7_refuseLong rfl (k_refuseL h 2) (by decide) ?_
            refine r_lret dX7_scaled_29 rfl ?_
            exact ⟨rfl, rfl⟩
      · refine Con.mk (by decide) ?_
        show RT _ _ 0 [some (.ref 74), some (.int n), none, none, none] [] _ _
        refine r_aload_0 dX8_scaled_0 ?_
        refine r_aload_0 dX8_scaled_1 ?_
        refine r_getI dX8_scaled_2 fl_X8_229 rfl ?_
        rw [f6 (pr 2)]
        refine r_if_le 12 dX8_scaled_5 (by decide) (fun c_5 => by exact absurd c_5 (nI_nle hJ (by omega))) (fun c_5 => ?_)
        refine r_iconst (v := 1) dX8_scaled_8 (by decide) ?_
        refine r_goto 13 dX8_scaled_9 (by decide) ?_
        refine r_iload_1 dX8_scaled_13 ?_
        refine r_i2l dX8_scaled_14 ?_
        refine r_lconst (v := 0) dX8_scaled_15 (by decide) ?_
        refine r_ldc2 dX8_scaled_16 ks_X8_438 ?_
        refine r_cS3 mX8_in dX8_scaled_19 ml_X8_131 mo_X8_in (q_in _ _ _ _) (by decide) ?_
        rw [b2i_c (in_w (a' := 0) (b' := 300) (by decide +kernel) (by decide +kernel)), b2i_f hn]
        refine r_cS2 mX8_unless_ dX8_scaled_22 ml_X8_241 mo_X8_unless_ (q_unless2 _ _ _) (by decide) ?_
        rw [show (if (1 : Int32) = 0 then (1 : Int32) else if (0 : Int32) = 0 then 2 else 0) = 2 by decide]
        refine r_cV1 mX8_isRefused dX8_scaled_25 ml_X8_245 mo_X8_isRefused rfl (q_isRefused _ _) (by decide) ?_
        rw [b2i_t (by decide)]
        refine r_if_eq 35 dX8_scaled_28 (by decide) (fun c_28 => by exact absurd c_28 (by decide)) (fun c_28 => ?_)
        refine r_ldc2 dX8_scaled_31 ks_X8_102 ?_
        refine r_lret dX8_scaled_34 rfl ?_
        exact ⟨rfl, rfl⟩
  · have hJ0 : NT.J t = 0 := by omega
    refine Same.to2 i0 ⟨.long (-9223372036854775808), 1, by decide, ?_, ?_⟩
    · refine Con.mk (by decide) ?_
      show RT _ _ 0 [some (.ref 0), some (.int n), none, none] [] _ _
      refine r_aload_0 dX7_scaled_0 ?_
      refine r_cV0 mX7_hasText dX7_scaled_1 ml_X7_101 mo_X7_hasText rfl (k_hasText hb.1 i3.1) (by decide) ?_
      rw [b2i_f hJ]
      refine r_if_ne 13 dX7_scaled_4 (by decide) (fun c_4 => by exact absurd rfl c_4) (fun c_4 => ?_)
      refine r_aload_0 dX7_scaled_7 ?_
      refine r_iconst (v := 1) dX7_scaled_8 (by decide) ?_
      refine r_cV1 mX7_refuseLong dX7_scaled_9 ml_X7_171 mo_X7_refuseLong rfl (k_refuseL h 1) (by decide) ?_
      refine r_lret dX7_scaled_12 rfl ?_
      exact ⟨rfl, rfl⟩
    · refine Con.mk (by decide) ?_
      show RT _ _ 0 [some (.ref 74), some (.int n), none, none, none] [] _ _
      refine r_aload_0 dX8_scaled_0 ?_
      refine r_aload_0 dX8_scaled_1 ?_
      refine r_getI dX8_scaled_2 fl_X8_229 rfl ?_
      rw [f6 (pr 1), hJ0]
      refine r_if_le 12 dX8_scaled_5 (by decide) (fun c_5 => ?_) (fun c_5 => by exact absurd (show nI 0 ≤ 0 by decide) c_5)
      refine r_iconst (v := 0) dX8_scaled_12 (by decide) ?_
      refine r_iload_1 dX8_scaled_13 ?_
      refine r_i2l dX8_scaled_14 ?_
      refine r_lconst (v := 0) dX8_scaled_15 (by decide) ?_
      refine r_ldc2 dX8_scaled_16 ks_X8_438 ?_
      refine r_cS3 mX8_in dX8_scaled_19 ml_X8_131 mo_X8_in (q_in _ _ _ _) (by decide) ?_
      refine r_cS2 mX8_unless_ dX8_scaled_22 ml_X8_241 mo_X8_unless_ (q_unless2 _ _ _) (by decide) ?_
      rw [if_pos rfl]
      refine r_cV1 mX8_isRefused dX8_scaled_25 ml_X8_245 mo_X8_isRefused rfl (q_isRefused _ _) (by decide) ?_
      rw [b2i_t (by decide)]
      refine r_if_eq 35 dX8_scaled_28 (by decide) (fun c_28 => by exact absurd c_28 (by decide)) (fun c_28 => ?_)
      refine r_ldc2 dX8_scaled_31 ks_X8_102 ?_
      refine r_lret dX8_scaled_34 rfl ?_
      exact ⟨rfl, rfl⟩

