/-! ===== the class: Waters.sweepUpTo ===== -/
theorem clamp_mm (x : Int64) : (if (if x < 1000 then x else 1000) < (-1000 : Int64) then (-1000 : Int64) else (if x < 1000 then x else 1000)) = clampS x := by
  have e1 : (1000 : Int64).toInt = 1000 := by decide +kernel
  have e2 : (-1000 : Int64).toInt = -1000 := by decide +kernel
  unfold clampS
  by_cases h1 : x < 1000
  · rw [if_pos h1]
    by_cases h2 : x < -1000
    · rw [if_pos h2, if_neg (fun h3 => by rw [fa_lt64, e1] at h1 h3; omega)]
    · rw [if_neg h2, if_neg (fun h3 => by rw [fa_lt64, e1] at h1 h3; omega)]
  · rw [if_neg h1, if_neg (by decide)]
    by_cases h3 : 1000 < x
    · rw [if_pos h3]
    · have : x = 1000 := by rw [fa_lt64, e1] at h1 h3; rw [fa_eq64, e1]; omega
      subst this; rw [if_neg h3]; decide
def bI (b : Bool) : Int32 := if b = true then 1 else 0
def SWQ (w : Nat) (h0 h' : PH) (f : FL) : Prop := (∀ e, e < 14 → h'.2 (w + 22) e = f e) ∧ h'.1 = h0.1 ∧ Fr (fun y => y = w + 22) h0 h'
set_option maxRecDepth 100000 in
set_option maxHeartbeats 4000000 in
theorem sweep_in {w : Nat} (hW : isW w) {t : NT} (ok : okT t) (sh : Int32) (lim : Nat) {h0 : PH} (nc : NetC h0 (w + 1) t) (rc : RingsC h0 (w + 17) (rgS (snOf t) sh)) {Q : Option Value → PH → Prop} : ∀ (m k : Nat) (x : FL × Bool) (h : PH), k + m = (rgS (snOf t) sh).length → FBd (8388608 + 9000 * k) x.1 → SWQ w h0 h x.1 → (∀ h', SWQ w h0 h' (((rgS (snOf t) sh).drop k).foldl (swp1 (lsT t) (spT t)) x).1 → RT mX6_sweepUpTo 3 87 [some (.ref w), some (.int (nI lim)), some (.int (bI (((rgS (snOf t) sh).drop k).foldl (swp1 (lsT t) (spT t)) x).2)), none, none, none] [] h' Q) → RT mX6_sweepUpTo 3 27 [some (.ref w), some (.int (nI lim)), some (.int (bI x.2)), some (.int (nI k)), none, none] [] h Q := by
  have hE14 := ok.2.2.1
  have r14 : (rgS (snOf t) sh).length ≤ 14 := ok.ok.rings sh
  intro m
  induction m with
  | zero =>
    intro k x h hk fb sw K
    refine r_iload_3 dX6_sweepUpTo_27 ?_
    refine r_aload_0 dX6_sweepUpTo_28 ?_
    refine r_getR (a := (w + 17)) dX6_sweepUpTo_29 fl_X6_28 (hW.s 0 (by decide)) rfl ?_
    refine r_getI dX6_sweepUpTo_32 fl_X6_124 (hW.s 17 (by decide)) ?_
    rw [sw.2.1, rc.1]
    refine r_icmpN_ge 87 dX6_sweepUpTo_35 (by decide) (by omega) (by omega) (fun c_35 => ?_) (fun c_35 => by omega)
    refine RT.sub (lv' := [some (.ref w), some (.int (nI lim)), some (.int (bI x.2)), none, none, none]) (by simp [lsub]) ?_
    have := K h
    rw [List.drop_eq_nil_of_le (by omega)] at this
    exact this sw
  | succ m ih =>
    intro k x h hk fb sw K
    have hkl : k < (rgS (snOf t) sh).length := by omega
    have hL : (rgS (snOf t) sh).getD k [] ∈ (rgS (snOf t) sh) := by rw [List.getD_eq_getElem?_getD, List.getElem?_eq_getElem hkl]; exact List.getElem_mem _
    have rk := ok.ok.ring sh hL
    have hm : ∀ q ∈ (rgS (snOf t) sh).getD k [], q.1 < NT.E t := fun q hq => by have := rk.2.2.2 q hq; simp only [gl, Bool.and_eq_true, decide_eq_true_eq] at this; exact this.1
    have fb24 : FBd 16777216 x.1 := fb.mono (by omega)
    have st : 1 ≤ (rStp (spT t) x.1 ((rgS (snOf t) sh).getD k [])).toInt ∧ (rStp (spT t) x.1 ((rgS (snOf t) sh).getD k [])).toInt ≤ 9 * 1073741824 := ok.ok.stp sh fb24 hL
    have ra : RAt h (w + 17) k ((rgS (snOf t) sh).getD k []) := by unfold RAt; rw [sw.2.1]; exact rc.2 k hkl
    have nc1 : NetC h (w + 1) t := nc.ext sw.2.1
    have hdrop : (rgS (snOf t) sh).drop k = (rgS (snOf t) sh).getD k [] :: (rgS (snOf t) sh).drop (k + 1) := by
      rw [List.drop_eq_getElem_cons hkl, List.getD_eq_getElem?_getD, List.getElem?_eq_getElem hkl]; rfl
    rw [hdrop] at K
    simp only [List.foldl_cons] at K
    have hstep : stepS (lsT t) (spT t) x.1 ((rgS (snOf t) sh).getD k []) = clampS (nearS (rSum (lsT t) x.1 ((rgS (snOf t) sh).getD k [])) (rStp (spT t) x.1 ((rgS (snOf t) sh).getD k []))) := rfl
    have fb' : FBd (8388608 + 9000 * (k + 1)) ((swp1 (lsT t) (spT t)) x ((rgS (snOf t) sh).getD k [])).1 := by
      have h9 := rk.2.1
      exact (lessS_b (clampS_b _) _ x.1 (8388608 + 9000 * k) fb rk.2.2.1 (by omega)).mono (by omega)
    refine r_iload_3 dX6_sweepUpTo_27 ?_
    refine r_aload_0 dX6_sweepUpTo_28 ?_
    refine r_getR (a := (w + 17)) dX6_sweepUpTo_29 fl_X6_28 (hW.s 0 (by decide)) rfl ?_
    refine r_getI dX6_sweepUpTo_32 fl_X6_124 (hW.s 17 (by decide)) ?_
    rw [sw.2.1, rc.1]
    refine r_icmpN_ge 87 dX6_sweepUpTo_35 (by decide) (by omega) (by omega) (fun c_35 => by omega) (fun c_35 => ?_)
    refine r_aload_0 dX6_sweepUpTo_38 ?_
    refine r_iload_3 dX6_sweepUpTo_39 ?_
    refine r_cV1 mX6_ringSum dX6_sweepUpTo_40 ml_X6_125 mo_X6_ringSum (hW.s 0 (by decide)) (k_ringSum hW ok nc1 (by omega) ra rk.2.1 hm x.1 sw.1) (by decide) ?_
    refine r_aload_0 dX6_sweepUpTo_43 ?_
    refine r_iload_3 dX6_sweepUpTo_44 ?_
    refine r_cV1 mX6_ringSteep dX6_sweepUpTo_45 ml_X6_129 mo_X6_ringSteep (hW.s 0 (by decide)) (k_ringSteep hW ok nc1 (by omega) ra rk.2.1 hm x.1 sw.1) (by decide) ?_
    refine r_cS2 mX6_nearest dX6_sweepUpTo_48 ml_X6_132 mo_X6_nearest (k_nearest h _ _ ⟨st.1, by have := st.2; omega⟩) (by decide) ?_
    refine r_lstore_4 dX6_sweepUpTo_51 ?_
    refine r_lload_4 dX6_sweepUpTo_53 ?_
    refine r_lconst (v := 0) dX6_sweepUpTo_55 (by decide) ?_
    refine r_lif_eq 81 dX6_sweepUpTo_56 dX6_sweepUpTo_57 (by decide) (fun c_56 => ?_) (fun c_56 => ?_)
    · refine r_iincN_3 dX6_sweepUpTo_81 ?_
      refine r_goto 27 dX6_sweepUpTo_84 (by decide) ?_
      have h0s : stepS (lsT t) (spT t) x.1 ((rgS (snOf t) sh).getD k []) = 0 := by rw [hstep]; exact (clampS_0 _).mpr c_56
      have hs1 : (swp1 (lsT t) (spT t)) x ((rgS (snOf t) sh).getD k []) = x := by
        unfold swp1
        rw [h0s, lessS_0]; simp
      rw [hs1] at K fb'
      refine RT.sub (lv' := [some (.ref w), some (.int (nI lim)), some (.int (bI x.2)), some (.int (nI (k + 1))), none, none]) (by simp [lsub]) ?_
      exact ih (k + 1) x h (by omega) fb' sw K
    · refine r_iconst (v := 1) dX6_sweepUpTo_60 (by decide) ?_
      refine r_istore_2 dX6_sweepUpTo_61 ?_
      refine r_aload_0 dX6_sweepUpTo_62 ?_
      refine r_iload_3 dX6_sweepUpTo_63 ?_
      refine r_ldc2 dX6_sweepUpTo_64 ks_X6_136 ?_
      refine r_ldc2 dX6_sweepUpTo_67 ks_X6_138 ?_
      refine r_lload_4 dX6_sweepUpTo_70 ?_
      refine r_lmin dX6_sweepUpTo_72 ml_X6_140 mo_Mmin (by decide) ?_
      refine r_lmax dX6_sweepUpTo_75 ml_X6_145 mo_Mmax (by decide) ?_
      rw [clamp_mm]
      refine r_cWQ2 mX6_lessen dX6_sweepUpTo_78 ml_X6_148 mo_X6_lessen (hW.s 0 (by decide)) (k_lessen hW ok (by omega) rk.2.1 hm _ ra x.1 sw.1) (by decide) (fun h1 p1 => ?_)
      refine r_iincN_3 dX6_sweepUpTo_81 ?_
      refine r_goto 27 dX6_sweepUpTo_84 (by decide) ?_
      have h0s : ¬ stepS (lsT t) (spT t) x.1 ((rgS (snOf t) sh).getD k []) = 0 := by rw [hstep]; exact fun q => c_56 ((clampS_0 _).mp q)
      have hm2 : ((swp1 (lsT t) (spT t)) x ((rgS (snOf t) sh).getD k [])).2 = true := by
        show (x.2 || decide (¬ stepS (lsT t) (spT t) x.1 ((rgS (snOf t) sh).getD k []) = 0)) = true
        rw [decide_eq_true h0s]; simp
      refine RT.sub (lv' := [some (.ref w), some (.int (nI lim)), some (.int 1), some (.int (nI (k + 1))), none, none]) (by simp [lsub]) ?_
      have := ih (k + 1) ((swp1 (lsT t) (spT t)) x ((rgS (snOf t) sh).getD k [])) h1 (by omega) fb' ⟨p1.1, p1.2.2.trans sw.2.1, sw.2.2.tr p1.2.1⟩ K
      rw [hm2] at this
      exact this
