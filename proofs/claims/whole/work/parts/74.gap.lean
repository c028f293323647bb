/-! ===== both: gap ===== -/
set_option maxRecDepth 100000 in
set_option maxHeartbeats 4000000 in
theorem mgap {t : NT} (ok : okT t) (sh : Int32) {h : PH} (nc : NetM h t) (rc : RingsM h (rgS (snOf t) sh)) (f : FL) (hf : ∀ e, e < 14 → h.2 87 e = f e) {Q : Option Value → PH → Prop} : ∀ (m k : Nat) (acc : Int64), k + m = (rgS (snOf t) sh).length → RT mX8_gap 7 99 [some (.ref 74), none, some (.long (gpS (lsT t) f ((rgS (snOf t) sh).drop k) acc)), none, none, none, none] [] h Q → RT mX8_gap 7 45 [some (.ref 74), none, some (.long acc), none, some (.int (nI k)), none, none] [] h Q := by
  have r14 : (rgS (snOf t) sh).length ≤ 14 := ok.ok.rings sh
  intro m
  induction m with
  | zero =>
    intro k acc hk K
    rw [List.drop_eq_nil_of_le (by omega)] at K
    refine r_iload_4 dX8_gap_45 ?_
    refine r_aload_0 dX8_gap_47 ?_
    refine r_getI dX8_gap_48 fl_X8_288 rfl ?_
    rw [rc.1]
    refine r_icmpN_ge 99 dX8_gap_51 (by decide) (by omega) (by omega) (fun c_51 => ?_) (fun c_51 => by omega)
    refine RT.sub (lv' := [some (.ref 74), none, some (.long acc), none, none, none, none]) (by simp [lsub]) ?_
    exact K
  | succ m ih =>
    intro k acc hk K
    have hkl : k < (rgS (snOf t) sh).length := by omega
    have hL : ((rgS (snOf t) sh).getD k []) ∈ (rgS (snOf t) sh) := by rw [List.getD_eq_getElem?_getD, List.getElem?_eq_getElem hkl]; exact List.getElem_mem _
    have rk := ok.ok.ring sh hL
    have hm : ∀ q ∈ ((rgS (snOf t) sh).getD k []), q.1 < NT.E t := fun q hq => by have := rk.2.2.2 q hq; simp only [gl, Bool.and_eq_true, decide_eq_true_eq] at this; exact this.1
    have hdrop : (rgS (snOf t) sh).drop k = ((rgS (snOf t) sh).getD k []) :: (rgS (snOf t) sh).drop (k + 1) := by
      rw [List.drop_eq_getElem_cons hkl, List.getD_eq_getElem?_getD, List.getElem?_eq_getElem hkl]; rfl
    rw [hdrop] at K
    have K' : RT mX8_gap 7 99 [some (.ref 74), none, some (.long (gpS (lsT t) f ((rgS (snOf t) sh).drop (k + 1)) (if acc < abS (rSum (lsT t) f ((rgS (snOf t) sh).getD k [])) then abS (rSum (lsT t) f ((rgS (snOf t) sh).getD k [])) else acc))), none, none, none, none] [] h Q := K
    have ih' := ih (k + 1) _ (by omega) K'
    have cs := q_mSum ok nc (by omega) (rc.2 k hkl) rk.2.1 hm f hf
    generalize (rSum (lsT t) f ((rgS (snOf t) sh).getD k [])) = X at cs ih'
    by_cases hs : X < 0
    · by_cases hg : acc < abS X
      · rw [if_pos hg] at ih'
        refine r_iload_4 dX8_gap_45 ?_
        refine r_aload_0 dX8_gap_47 ?_
        refine r_getI dX8_gap_48 fl_X8_288 rfl ?_
        rw [rc.1]
        refine r_icmpN_ge 99 dX8_gap_51 (by decide) (by omega) (by omega) (fun c_51 => by omega) (fun c_51 => ?_)
        refine r_aload_0 dX8_gap_54 ?_
        refine r_iload_4 dX8_gap_55 ?_
        refine r_cV1 mX8_ringSum dX8_gap_57 ml_X8_337 mo_X8_ringSum rfl cs (by decide) ?_
        refine r_lstore_5 dX8_gap_60 ?_
        refine r_lload_5 dX8_gap_62 ?_
        refine r_lconst (v := 0) dX8_gap_64 (by decide) ?_
        refine r_lif_ge 75 dX8_gap_65 dX8_gap_66 (by decide) (fun c_65 => by exact absurd hs (Int64.not_lt.mpr c_65)) (fun c_65 => ?_)
        refine r_lload_5 dX8_gap_69 ?_
        refine r_lneg dX8_gap_71 ?_
        rw [show -X = abS X from (if_pos hs).symm]
        refine r_goto 77 dX8_gap_72 (by decide) ?_
        refine r_lstore_5 dX8_gap_77 ?_
        refine r_lload_5 dX8_gap_79 ?_
        refine r_lload_2 dX8_gap_81 ?_
        refine r_lif_le 91 dX8_gap_82 dX8_gap_83 (by decide) (fun c_82 => by exact absurd hg (Int64.not_lt.mpr c_82)) (fun c_82 => ?_)
        refine r_lload_5 dX8_gap_86 ?_
        refine r_goto 92 dX8_gap_88 (by decide) ?_
        refine r_lstore_2 dX8_gap_92 ?_
        refine r_iincN_4 dX8_gap_93 ?_
        refine r_goto 45 dX8_gap_96 (by decide) ?_
        refine RT.sub (lv' := [some (.ref 74), none, some (.long (abS X)), none, some (.int (nI (k + 1))), none, none]) (by simp [lsub]) ?_
        exact ih'
      · rw [if_neg hg] at ih'
        refine r_iload_4 dX8_gap_45 ?_
        refine r_aload_0 dX8_gap_47 ?_
        refine r_getI dX8_gap_48 fl_X8_288 rfl ?_
        rw [rc.1]
        refine r_icmpN_ge 99 dX8_gap_51 (by decide) (by omega) (by omega) (fun c_51 => by omega) (fun c_51 => ?_)
        refine r_aload_0 dX8_gap_54 ?_
        refine r_iload_4 dX8_gap_55 ?_
        refine r_cV1 mX8_ringSum dX8_gap_57 ml_X8_337 mo_X8_ringSum rfl cs (by decide) ?_
        refine r_lstore_5 dX8_gap_60 ?_
        refine r_lload_5 dX8_gap_62 ?_
        refine r_lconst (v := 0) dX8_gap_64 (by decide) ?_
        refine r_lif_ge 75 dX8_gap_65 dX8_gap_66 (by decide) (fun c_65 => by exact absurd hs (Int64.not_lt.mpr c_65)) (fun c_65 => ?_)
        refine r_lload_5 dX8_gap_69 ?_
        refine r_lneg dX8_gap_71 ?_
        rw [show -X = abS X from (if_pos hs).symm]
        refine r_goto 77 dX8_gap_72 (by decide) ?_
        refine r_lstore_5 dX8_gap_77 ?_
        refine r_lload_5 dX8_gap_79 ?_
        refine r_lload_2 dX8_gap_81 ?_
        refine r_lif_le 91 dX8_gap_82 dX8_gap_83 (by decide) (fun c_82 => ?_) (fun c_82 => by exact absurd (Int64.not_lt.mp hg) c_82)
        refine r_lload_2 dX8_gap_91 ?_
        refine r_lstore_2 dX8_gap_92 ?_
        refine r_iincN_4 dX8_gap_93 ?_
        refine r_goto 45 dX8_gap_96 (by decide) ?_
        refine RT.sub (lv' := [some (.ref 74), none, some (.long acc), none, some (.int (nI (k + 1))), none, none]) (by simp [lsub]) ?_
        exact ih'
    · by_cases hg : acc < abS X
      · have eX : abS X = X := if_neg hs
        rw [eX] at hg ih'
        rw [if_pos hg] at ih'
        refine r_iload_4 dX8_gap_45 ?_
        refine r_aload_0 dX8_gap_47 ?_
        refine r_getI dX8_gap_48 fl_X8_288 rfl ?_
        rw [rc.1]
        refine r_icmpN_ge 99 dX8_gap_51 (by decide) (by omega) (by omega) (fun c_51 => by omega) (fun c_51 => ?_)
        refine r_aload_0 dX8_gap_54 ?_
        refine r_iload_4 dX8_gap_55 ?_
        refine r_cV1 mX8_ringSum dX8_gap_57 ml_X8_337 mo_X8_ringSum rfl cs (by decide) ?_
        refine r_lstore_5 dX8_gap_60 ?_
        refine r_lload_5 dX8_gap_62 ?_
        refine r_lconst (v := 0) dX8_gap_64 (by decide) ?_
        refine r_lif_ge 75 dX8_gap_65 dX8_gap_66 (by decide) (fun c_65 => ?_) (fun c_65 => by exact absurd (Int64.not_lt.mp hs) c_65)
        refine r_lload_5 dX8_gap_75 ?_
        refine r_lstore_5 dX8_gap_77 ?_
        refine r_lload_5 dX8_gap_79 ?_
        refine r_lload_2 dX8_gap_81 ?_
        refine r_lif_le 91 dX8_gap_82 dX8_gap_83 (by decide) (fun c_82 => by exact absurd hg (Int64.not_lt.mpr c_82)) (fun c_82 => ?_)
        refine r_lload_5 dX8_gap_86 ?_
        refine r_goto 92 dX8_gap_88 (by decide) ?_
        refine r_lstore_2 dX8_gap_92 ?_
        refine r_iincN_4 dX8_gap_93 ?_
        refine r_goto 45 dX8_gap_96 (by decide) ?_
        refine RT.sub (lv' := [some (.ref 74), none, some (.long X), none, some (.int (nI (k + 1))), none, none]) (by simp [lsub]) ?_
        exact ih'
      · have eX : abS X = X := if_neg hs
        rw [eX] at hg ih'
        rw [if_neg hg] at ih'
        refine r_iload_4 dX8_gap_45 ?_
        refine r_aload_0 dX8_gap_47 ?_
        refine r_getI dX8_gap_48 fl_X8_288 rfl ?_
        rw [rc.1]
        refine r_icmpN_ge 99 dX8_gap_51 (by decide) (by omega) (by omega) (fun c_51 => by omega) (fun c_51 => ?_)
        refine r_aload_0 dX8_gap_54 ?_
        refine r_iload_4 dX8_gap_55 ?_
        refine r_cV1 mX8_ringSum dX8_gap_57 ml_X8_337 mo_X8_ringSum rfl cs (by decide) ?_
        refine r_lstore_5 dX8_gap_60 ?_
        refine r_lload_5 dX8_gap_62 ?_
        refine r_lconst (v := 0) dX8_gap_64 (by decide) ?_
        refine r_lif_ge 75 dX8_gap_65 dX8_gap_66 (by decide) (fun c_65 => ?_) (fun c_65 => by exact absurd (Int64.not_lt.mp hs) c_65)
        refine r_lload_5 dX8_gap_75 ?_
        refine r_lstore_5 dX8_gap_77 ?_
        refine r_lload_5 dX8_gap_79 ?_
        refine r_lload_2 dX8_gap_81 ?_
        refine r_lif_le 91 dX8_gap_82 dX8_gap_83 (by decide) (fun c_82 => ?_) (fun c_82 => by exact absurd (Int64.not_lt.mp hg) c_82)
        refine r_lload_2 dX8_gap_91 ?_
        refine r_lstore_2 dX8_gap_92 ?_
        refine r_iincN_4 dX8_gap_93 ?_
        refine r_goto 45 dX8_gap_96 (by decide) ?_
        refine RT.sub (lv' := [some (.ref 74), none, some (.long acc), none, some (.int (nI (k + 1))), none, none]) (by simp [lsub]) ?_
        exact ih'
set_option maxRecDepth 100000 in
set_option maxHeartbeats 4000000 in
theorem o_gap {h : PH} (i : INV h) (n : Int32) : Same2 mX7_gap 6 [.ref 0, .int n] mX8_gap 7 [.ref 74, .int n] h := by
  have i0 := i
  obtain ⟨n0, bs, tr, fl, wp, t, nm, ac, ms, i1, i2, i3, i4, i5, i6⟩ := i
  have hb := i3.e
  have f6 : ∀ {h1 : PH} {y : Int32}, PC h y h1 → h1.1 74 6 = nI (NT.J t) := fun p => by rw [(p.kM 74 (by omega)).1]; exact i6.1
  have pr : ∀ y, PC h y (clH h y) := fun y => Fr.rf
  by_cases hJ : 0 < NT.J t
  · by_cases hn : (0 : Int32) ≤ n ∧ n ≤ 60
    · obtain ⟨m, hm, rfl⟩ := ex_le (k := 60) (by decide) hn
      obtain ⟨tx, nok, mok, sc, nac, acc, mec⟩ := (i3.k (clH_kC (x := 0))).2.2.2 hJ
      have ok := tx.1
      have hE14 := ok.2.2.1
      have nc : NetC (clH h 0) 15 t := sc.1
      refine ⟨.long (gpS (lsT t) (flS (snOf t) 0 m).1 (rgS (snOf t) 0) 0), PC h 0, fun h1 h2 => SolM h2 t (solveS (snOf t)) ∧ FM slS slF (rfH h1 0) h2, ?_, fun h1 p => ?_, fun h1 h2 p q => inv_paper i1 i2 i3 i4 i5 (by decide) p q.2 (MX.fm ((i6.k p.kM).rf 0) q.1 q.2 hJ)⟩
      · refine Con.mk (by decide) ?_
        show RT _ _ 0 [some (.ref 0), some (.int (nI m))] [] _ _
        refine r_aload_0 dX7_gap_0 ?_
        refine r_cV0 mX7_hasText dX7_gap_1 ml_X7_101 mo_X7_hasText rfl (k_hasText hb.1 i3.1) (by decide) ?_
        rw [b2i_t hJ]
        refine r_if_ne 13 dX7_gap_4 (by decide) (fun c_4 => ?_) (fun c_4 => by exact absurd c_4 (by decide))
        refine r_iload_1 dX7_gap_13 ?_
        refine r_if_lt 23 dX7_gap_14 (by decide) (fun c_14 => by exact absurd c_14 (nI_pos (by omega))) (fun c_14 => ?_)
        refine r_iload_1 dX7_gap_17 ?_
        refine r_bipush (v := nI 60) dX7_gap_18 (by decide) ?_
        refine r_icmpN_le 29 dX7_gap_20 (by decide) (by omega) (by omega) (fun c_20 => ?_) (fun c_20 => by omega)
        refine r_aload_0 dX7_gap_29 ?_
        refine r_cW0 mX7_allow dX7_gap_30 ml_X7_79 mo_X7_allow rfl (k_allow h) (by decide) ?_
        refine r_aload_0 dX7_gap_33 ?_
        refine r_getR (a := 42) dX7_gap_34 fl_X7_41 rfl rfl ?_
        refine r_aload_0 dX7_gap_37 ?_
        refine r_getR (a := 15) dX7_gap_38 fl_X7_37 rfl rfl ?_
        refine r_cWQ1 mX2_copyFrom dX7_gap_41 ml_X7_83 mo_X2_copyFrom rfl (k_copy_42_15 (clH h 0)) (by decide) (fun h2 p2 => ?_)
        have nc2 : NetC h2 42 t := p2.net ok nc
        refine r_aload_0 dX7_gap_44 ?_
        refine r_getR (a := 41) dX7_gap_45 fl_X7_38 rfl rfl ?_
        refine r_iload_1 dX7_gap_48 ?_
        refine r_cWQ1 mX6_sweepFirstRound dX7_gap_49 ml_X7_222 mo_X6_sweepFirstRound rfl (k_firstRound isW41 ok hm nc2) (by decide) (fun h3 p3 => ?_)
        obtain ⟨nc3, rc3, fl3, f3⟩ := p3
        refine r_aload_0 dX7_gap_52 ?_
        refine r_getR (a := 41) dX7_gap_53 fl_X7_38 rfl rfl ?_
        refine r_cV0 mX6_greatestRingSum dX7_gap_56 ml_X7_229 mo_X6_greatestRingSum rfl (k_greatest isW41 ok 0 nc3 rc3 _ (fun e he => fl3 e he)) (by decide) ?_
        refine r_lret dX7_gap_59 rfl ?_
        exact ⟨rfl, (p2.2.2.2.2.wk (fun _ q => cp_pap q)).tr (f3.wk (fun _ q => rg_pap q))⟩
      · obtain ⟨-, -, m44, m46, -, mm⟩ := (i6.k p.kM).rf 0
        obtain ⟨rwm, sm, nam, acm, mem⟩ := mm hJ
        have ncm := sm.1
        refine Con.mk (by decide) ?_
        show RT _ _ 0 [some (.ref 74), some (.int (nI m)), none, none, none, none, none] [] _ _
        refine r_aload_0 dX8_gap_0 ?_
        refine r_aload_0 dX8_gap_1 ?_
        refine r_getI dX8_gap_2 fl_X8_229 rfl ?_
        rw [f6 p]
        refine r_if_le 12 dX8_gap_5 (by decide) (fun c_5 => by exact absurd c_5 (nI_nle hJ (by omega))) (fun c_5 => ?_)
        refine r_iconst (v := 1) dX8_gap_8 (by decide) ?_
        refine r_goto 13 dX8_gap_9 (by decide) ?_
        refine r_iload_1 dX8_gap_13 ?_
        refine r_i2l dX8_gap_14 ?_
        refine r_lconst (v := 0) dX8_gap_15 (by decide) ?_
        refine r_ldc2 dX8_gap_16 ks_X8_416 ?_
        refine r_cS3 mX8_in dX8_gap_19 ml_X8_131 mo_X8_in (q_in _ _ _ _) (by decide) ?_
        rw [b2i_c (in_w (a' := 0) (b' := 60) (by decide +kernel) (by decide +kernel)), b2i_t hn]
        refine r_cS2 mX8_unless_ dX8_gap_22 ml_X8_241 mo_X8_unless_ (q_unless2 _ _ _) (by decide) ?_
        rw [show (if (1 : Int32) = 0 then (1 : Int32) else if (1 : Int32) = 0 then 2 else 0) = 0 by decide]
        refine r_cV1 mX8_isRefused dX8_gap_25 ml_X8_245 mo_X8_isRefused rfl (q_isRefused _ _) (by decide) ?_
        rw [b2i_f (by decide)]
        refine r_if_eq 35 dX8_gap_28 (by decide) (fun c_28 => ?_) (fun c_28 => by exact absurd rfl c_28)
        refine r_aload_0 dX8_gap_35 ?_
        refine r_iload_1 dX8_gap_36 ?_
        refine r_cWQ1 mX8_laysEarly dX8_gap_37 ml_X8_418 mo_X8_laysEarly rfl (q_laysEarly ok ncm hm) (by decide) (fun h3 p3 => ?_)
        obtain ⟨nc3, -, -, rc3, fl3, f3⟩ := p3
        refine r_lconst (v := 0) dX8_gap_40 (by decide) ?_
        refine r_lstore_2 dX8_gap_41 ?_
        refine r_iconst (v := nI 0) dX8_gap_42 (by decide) ?_
        refine r_istore_4 dX8_gap_43 ?_
        refine RT.sub (lv' := [some (.ref 74), none, some (.long 0), none, some (.int (nI 0)), none, none]) (by simp [lsub]) ?_
        refine mgap ok 0 nc3 rc3 _ (fun e he => fl3 e he) (rgS (snOf t) 0).length 0 0 (by omega) ?_
        rw [List.drop_zero]
        refine r_aload_0 dX8_gap_99 ?_
        refine r_cWQ0 mX8_solves dX8_gap_100 ml_X8_260 mo_X8_solves rfl (q_solves ok nc3) (by decide) (fun h4 p4 => ?_)
        obtain ⟨s4, f4⟩ := p4
        refine r_lload_2 dX8_gap_103 ?_
        refine r_lret dX8_gap_104 rfl ?_
        exact ⟨rfl, s4, f3.tr f4⟩
    · refine Same.to2 i0 ⟨.long (-9223372036854775808), 2, by decide, ?_, ?_⟩
      · refine Con.mk (by decide) ?_
        show RT _ _ 0 [some (.ref 0), some (.int n)] [] _ _
        refine r_aload_0 dX7_gap_0 ?_
        refine r_cV0 mX7_hasText dX7_gap_1 ml_X7_101 mo_X7_hasText rfl (k_hasText hb.1 i3.1) (by decide) ?_
        rw [b2i_t hJ]
        refine r_if_ne 13 dX7_gap_4 (by decide) (fun c_4 => ?_) (fun c_4 => by exact absurd c_4 (by decide))
        refine r_iload_1 dX7_gap_13 ?_
        refine r_if_lt 23 dX7_gap_14 (by decide) (fun c_14 => ?_) (fun c_14 => ?_)
        · refine r_aload_0 dX7_gap_23 ?_
          refine r_iconst (v := 2) dX7_gap_24 (by decide) ?_
          refine r_cV1 mX7_refuseLong dX7_gap_25 ml_X7_171 mo_X7_refuseLong rfl (k_refuseL h 2) (by decide) ?_
          refine r_lret dX7_gap_28 rfl ?_
          exact ⟨rfl, rfl⟩
        · refine r_iload_1 dX7_gap_17 ?_
          refine r_bipush (v := nI 60) dX7_gap_18 (by decide) ?_
          refine r_icmp_le 29 dX7_gap_20 (by decide) (fun c_20 => ?_) (fun c_20 => ?_)
          · exact absurd ⟨ge_of_nlt c_14, c_20⟩ hn
          · refine r_aload_0 dX7_gap_23 ?_
            refine r_iconst (v := 2) dX7_gap_24 (by decide) ?_
            refine r_cV1 mX7_refuseLong dX7_gap_25 ml_X7_171 mo_X7_refuseLong rfl (k_refuseL h 2) (by decide) ?_
            refine r_lret dX7_gap_28 rfl ?_
            exact ⟨rfl, rfl⟩
      · refine Con.mk (by decide) ?_
        show RT _ _ 0 [some (.ref 74), some (.int n), none, none, none, none, none] [] _ _
        refine r_aload_0 dX8_gap_0 ?_
        refine r_aload_0 dX8_gap_1 ?_
        refine r_getI dX8_gap_2 fl_X8_229 rfl ?_
        rw [f6 (pr 2)]
        refine r_if_le 12 dX8_gap_5 (by decide) (fun c_5 => by exact absurd c_5 (nI_nle hJ (by omega))) (fun c_5 => ?_)
        refine r_iconst (v := 1) dX8_gap_8 (by decide) ?_
        refine r_goto 13 dX8_gap_9 (by decide) ?_
        refine r_iload_1 dX8_gap_13 ?_
        refine r_i2l dX8_gap_14 ?_
        refine r_lconst (v := 0) dX8_gap_15 (by decide) ?_
        refine r_ldc2 dX8_gap_16 ks_X8_416 ?_
        refine r_cS3 mX8_in dX8_gap_19 ml_X8_131 mo_X8_in (q_in _ _ _ _) (by decide) ?_
        rw [b2i_c (in_w (a' := 0) (b' := 60) (by decide +kernel) (by decide +kernel)), b2i_f hn]
        refine r_cS2 mX8_unless_ dX8_gap_22 ml_X8_241 mo_X8_unless_ (q_unless2 _ _ _) (by decide) ?_
        rw [show (if (1 : Int32) = 0 then (1 : Int32) else if (0 : Int32) = 0 then 2 else 0) = 2 by decide]
        refine r_cV1 mX8_isRefused dX8_gap_25 ml_X8_245 mo_X8_isRefused rfl (q_isRefused _ _) (by decide) ?_
        rw [b2i_t (by decide)]
        refine r_if_eq 35 dX8_gap_28 (by decide) (fun c_28 => by exact absurd c_28 (by decide)) (fun c_28 => ?_)
        refine r_ldc2 dX8_gap_31 ks_X8_102 ?_
        refine r_lret dX8_gap_34 rfl ?_
        exact ⟨rfl, rfl⟩
  · have hJ0 : NT.J t = 0 := by omega
    refine Same.to2 i0 ⟨.long (-9223372036854775808), 1, by decide, ?_, ?_⟩
    · refine Con.mk (by decide) ?_
      show RT _ _ 0 [some (.ref 0), some (.int n)] [] _ _
      refine r_aload_0 dX7_gap_0 ?_
      refine r_cV0 mX7_hasText dX7_gap_1 ml_X7_101 mo_X7_hasText rfl (k_hasText hb.1 i3.1) (by decide) ?_
      rw [b2i_f hJ]
      refine r_if_ne 13 dX7_gap_4 (by decide) (fun c_4 => by exact absurd rfl c_4) (fun c_4 => ?_)
      refine r_aload_0 dX7_gap_7 ?_
      refine r_iconst (v := 1) dX7_gap_8 (by decide) ?_
      refine r_cV1 mX7_refuseLong dX7_gap_9 ml_X7_171 mo_X7_refuseLong rfl (k_refuseL h 1) (by decide) ?_
      refine r_lret dX7_gap_12 rfl ?_
      exact ⟨rfl, rfl⟩
    · refine Con.mk (by decide) ?_
      show RT _ _ 0 [some (.ref 74), some (.int n), none, none, none, none, none] [] _ _
      refine r_aload_0 dX8_gap_0 ?_
      refine r_aload_0 dX8_gap_1 ?_
      refine r_getI dX8_gap_2 fl_X8_229 rfl ?_
      rw [f6 (pr 1), hJ0]
      refine r_if_le 12 dX8_gap_5 (by decide) (fun c_5 => ?_) (fun c_5 => by exact absurd (show nI 0 ≤ 0 by decide) c_5)
      refine r_iconst (v := 0) dX8_gap_12 (by decide) ?_
      refine r_iload_1 dX8_gap_13 ?_
      refine r_i2l dX8_gap_14 ?_
      refine r_lconst (v := 0) dX8_gap_15 (by decide) ?_
      refine r_ldc2 dX8_gap_16 ks_X8_416 ?_
      refine r_cS3 mX8_in dX8_gap_19 ml_X8_131 mo_X8_in (q_in _ _ _ _) (by decide) ?_
      refine r_cS2 mX8_unless_ dX8_gap_22 ml_X8_241 mo_X8_unless_ (q_unless2 _ _ _) (by decide) ?_
      rw [if_pos rfl]
      refine r_cV1 mX8_isRefused dX8_gap_25 ml_X8_245 mo_X8_isRefused rfl (q_isRefused _ _) (by decide) ?_
      rw [b2i_t (by decide)]
      refine r_if_eq 35 dX8_gap_28 (by decide) (fun c_28 => by exact absurd c_28 (by decide)) (fun c_28 => ?_)
      refine r_ldc2 dX8_gap_31 ks_X8_102 ?_
      refine r_lret dX8_gap_34 rfl ?_
      exact ⟨rfl, rfl⟩

