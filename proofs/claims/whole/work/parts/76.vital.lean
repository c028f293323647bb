/-! ===== both: vital ===== -/
def vtS (t : NT) : Nat → Nat → Int32 → Int32
  | 0, _, a => a
  | m + 1, e, a => vtS t m (e + 1) (if (dcS t ((1 : Int32) <<< (nI e &&& 31)) &&& ((dryS (NT.J t) (trS (snOf t) (solveS (snOf t)).1)) ^^^ -1)) = 0 then a else a ||| ((1 : Int32) <<< (nI e &&& 31)))
/-- an edge that is closed already dries nothing more -/
theorem dc_cl {t : NT} {e : Nat} (he : e < 32) (h : bt (NT.cl t) e = true) : (dcS t ((1 : Int32) <<< (nI e &&& 31)) &&& ((dryS (NT.J t) (trS (snOf t) (solveS (snOf t)).1)) ^^^ -1)) = 0 := by
  have e1 : NT.cl t ||| ((1 : Int32) <<< (nI e &&& 31)) = NT.cl t := b_ext (fun i hi => by
    rw [b_set _ he hi]
    by_cases q : i = e
    · subst q; simp [h]
    · simp [q])
  unfold dcS
  rw [e1]
  show (dryS (NT.J t) (trS (snOf t) (solveS (snOf t)).1)) &&& ((dryS (NT.J t) (trS (snOf t) (solveS (snOf t)).1)) ^^^ -1) = 0
  refine b_ext (fun i hi => ?_)
  rw [b_and, b_not _ hi, b_0]; simp
set_option maxRecDepth 100000 in
set_option maxHeartbeats 4000000 in
theorem vit_loop {t : NT} (ok : okT t) (h0 : PH) : ∀ (m e : Nat) (acc : Int32) (h : PH), e + m = NT.E t → NetC h 15 t → Fr pap h0 h → RT mX7_vitalEdges 7 12 [some (.ref 0), some (.int (dryS (NT.J t) (trS (snOf t) (solveS (snOf t)).1))), some (.int acc), some (.int (nI e))] [] h (fun a h' => a = some (.int (vtS t m e acc)) ∧ Fr pap h0 h') := by
  have hE14 := ok.2.2.1
  intro m
  induction m with
  | zero =>
    intro e acc h he nc fr
    have k1 : h.1 15 1 = nI (NT.E t) := nc.2.1
    refine r_iload_3 dX7_vitalEdges_12 ?_
    refine r_aload_0 dX7_vitalEdges_13 ?_
    refine r_getR (a := 15) dX7_vitalEdges_14 fl_X7_37 rfl rfl ?_
    refine r_getI dX7_vitalEdges_17 fl_X7_105 rfl ?_
    rw [k1]
    refine r_icmpN_ge 63 dX7_vitalEdges_20 (by decide) (by omega) (by omega) (fun c_20 => ?_) (fun c_20 => by omega)
    refine r_iload_2 dX7_vitalEdges_63 ?_
    refine r_iret dX7_vitalEdges_64 rfl ?_
    exact ⟨rfl, fr⟩
  | succ m ih =>
    intro e acc h he nc fr
    have k1 : h.1 15 1 = nI (NT.E t) := nc.2.1
    have k3 : h.1 15 3 = NT.cl t := nc.2.2.2.1
    have np : ∀ j, j < 10 → ¬ pap (15 + j) := fun j hj q => by have := q.1; omega
    simp only [vtS]
    by_cases hc : bt (NT.cl t) e = true
    · rw [if_pos (dc_cl (by omega) hc)]
      refine r_iload_3 dX7_vitalEdges_12 ?_
      refine r_aload_0 dX7_vitalEdges_13 ?_
      refine r_getR (a := 15) dX7_vitalEdges_14 fl_X7_37 rfl rfl ?_
      refine r_getI dX7_vitalEdges_17 fl_X7_105 rfl ?_
      rw [k1]
      refine r_icmpN_ge 63 dX7_vitalEdges_20 (by decide) (by omega) (by omega) (fun c_20 => by omega) (fun c_20 => ?_)
      refine r_aload_0 dX7_vitalEdges_23 ?_
      refine r_getR (a := 15) dX7_vitalEdges_24 fl_X7_37 rfl rfl ?_
      refine r_getI dX7_vitalEdges_27 fl_X7_154 rfl ?_
      rw [k3]
      refine r_iload_3 dX7_vitalEdges_30 ?_
      refine r_cS2 mX7_bit dX7_vitalEdges_31 ml_X7_157 mo_X7_bit (k_bit _ _ (j := e) (by omega)) (by decide) ?_
      rw [b2i_t hc]
      refine r_if_ne 57 dX7_vitalEdges_34 (by decide) (fun c_34 => ?_) (fun c_34 => by exact absurd c_34 (by decide))
      refine r_iincN_3 dX7_vitalEdges_57 ?_
      refine r_goto 12 dX7_vitalEdges_60 (by decide) ?_
      exact ih (e + 1) _ h (by omega) nc fr
    · by_cases hd : (dcS t ((1 : Int32) <<< (nI e &&& 31)) &&& ((dryS (NT.J t) (trS (snOf t) (solveS (snOf t)).1)) ^^^ -1)) = 0
      · rw [if_pos hd]
        refine r_iload_3 dX7_vitalEdges_12 ?_
        refine r_aload_0 dX7_vitalEdges_13 ?_
        refine r_getR (a := 15) dX7_vitalEdges_14 fl_X7_37 rfl rfl ?_
        refine r_getI dX7_vitalEdges_17 fl_X7_105 rfl ?_
        rw [k1]
        refine r_icmpN_ge 63 dX7_vitalEdges_20 (by decide) (by omega) (by omega) (fun c_20 => by omega) (fun c_20 => ?_)
        refine r_aload_0 dX7_vitalEdges_23 ?_
        refine r_getR (a := 15) dX7_vitalEdges_24 fl_X7_37 rfl rfl ?_
        refine r_getI dX7_vitalEdges_27 fl_X7_154 rfl ?_
        rw [k3]
        refine r_iload_3 dX7_vitalEdges_30 ?_
        refine r_cS2 mX7_bit dX7_vitalEdges_31 ml_X7_157 mo_X7_bit (k_bit _ _ (j := e) (by omega)) (by decide) ?_
        rw [b2i_f hc]
        refine r_if_ne 57 dX7_vitalEdges_34 (by decide) (fun c_34 => by exact absurd rfl c_34) (fun c_34 => ?_)
        refine r_aload_0 dX7_vitalEdges_37 ?_
        refine r_iconst (v := 1) dX7_vitalEdges_38 (by decide) ?_
        refine r_iload_3 dX7_vitalEdges_39 ?_
        refine r_ishl dX7_vitalEdges_40 ?_
        refine r_cVQ1 mX7_dryIfClosed dX7_vitalEdges_41 ml_X7_262 mo_X7_dryIfClosed rfl (k_dryIf ok nc _) (by decide) (fun h1 p1 => ?_)
        have nc1 : NetC h1 15 t := nc.fr p1 np
        refine r_iload_1 dX7_vitalEdges_44 ?_
        refine r_iconst (v := (-1)) dX7_vitalEdges_45 (by decide) ?_
        refine r_ixor dX7_vitalEdges_46 ?_
        refine r_iand dX7_vitalEdges_47 ?_
        refine r_if_eq 57 dX7_vitalEdges_48 (by decide) (fun c_48 => ?_) (fun c_48 => by exact absurd hd c_48)
        refine r_iincN_3 dX7_vitalEdges_57 ?_
        refine r_goto 12 dX7_vitalEdges_60 (by decide) ?_
        exact ih (e + 1) _ h1 (by omega) nc1 (fr.tr p1)
      · rw [if_neg hd]
        refine r_iload_3 dX7_vitalEdges_12 ?_
        refine r_aload_0 dX7_vitalEdges_13 ?_
        refine r_getR (a := 15) dX7_vitalEdges_14 fl_X7_37 rfl rfl ?_
        refine r_getI dX7_vitalEdges_17 fl_X7_105 rfl ?_
        rw [k1]
        refine r_icmpN_ge 63 dX7_vitalEdges_20 (by decide) (by omega) (by omega) (fun c_20 => by omega) (fun c_20 => ?_)
        refine r_aload_0 dX7_vitalEdges_23 ?_
        refine r_getR (a := 15) dX7_vitalEdges_24 fl_X7_37 rfl rfl ?_
        refine r_getI dX7_vitalEdges_27 fl_X7_154 rfl ?_
        rw [k3]
        refine r_iload_3 dX7_vitalEdges_30 ?_
        refine r_cS2 mX7_bit dX7_vitalEdges_31 ml_X7_157 mo_X7_bit (k_bit _ _ (j := e) (by omega)) (by decide) ?_
        rw [b2i_f hc]
        refine r_if_ne 57 dX7_vitalEdges_34 (by decide) (fun c_34 => by exact absurd rfl c_34) (fun c_34 => ?_)
        refine r_aload_0 dX7_vitalEdges_37 ?_
        refine r_iconst (v := 1) dX7_vitalEdges_38 (by decide) ?_
        refine r_iload_3 dX7_vitalEdges_39 ?_
        refine r_ishl dX7_vitalEdges_40 ?_
        refine r_cVQ1 mX7_dryIfClosed dX7_vitalEdges_41 ml_X7_262 mo_X7_dryIfClosed rfl (k_dryIf ok nc _) (by decide) (fun h1 p1 => ?_)
        have nc1 : NetC h1 15 t := nc.fr p1 np
        refine r_iload_1 dX7_vitalEdges_44 ?_
        refine r_iconst (v := (-1)) dX7_vitalEdges_45 (by decide) ?_
        refine r_ixor dX7_vitalEdges_46 ?_
        refine r_iand dX7_vitalEdges_47 ?_
        refine r_if_eq 57 dX7_vitalEdges_48 (by decide) (fun c_48 => by exact absurd c_48 hd) (fun c_48 => ?_)
        refine r_iload_2 dX7_vitalEdges_51 ?_
        refine r_iconst (v := 1) dX7_vitalEdges_52 (by decide) ?_
        refine r_iload_3 dX7_vitalEdges_53 ?_
        refine r_ishl dX7_vitalEdges_54 ?_
        refine r_ior dX7_vitalEdges_55 ?_
        refine r_istore_2 dX7_vitalEdges_56 ?_
        refine r_iincN_3 dX7_vitalEdges_57 ?_
        refine r_goto 12 dX7_vitalEdges_60 (by decide) ?_
        exact ih (e + 1) _ h1 (by omega) nc1 (fr.tr p1)
set_option maxRecDepth 100000 in
set_option maxHeartbeats 4000000 in
theorem k_vital {h : PH} {t : NT} (ok : okT t) (sc : SolC h 14 t (solveS (snOf t))) : Con mX7_vitalEdges 7 [.ref 0] h (fun a h' => a = some (.int (vtS t (NT.E t) 0 0)) ∧ Fr pap h h') := by
  refine Con.mk (by decide) ?_
  show RT _ _ 0 [some (.ref 0), none, none, none] [] _ _
  refine r_aload_0 dX7_vitalEdges_0 ?_
  refine r_getR (a := 14) dX7_vitalEdges_1 fl_X7_29 rfl rfl ?_
  refine r_cV0 mX6_dryJoints dX7_vitalEdges_4 ml_X7_129 mo_X6_dryJoints rfl (k_dry isW14 ok _ sc.1 sc.2.2.2.2.2.1) (by decide) ?_
  refine r_istore_1 dX7_vitalEdges_7 ?_
  refine r_iconst (v := 0) dX7_vitalEdges_8 (by decide) ?_
  refine r_istore_2 dX7_vitalEdges_9 ?_
  refine r_iconst (v := nI 0) dX7_vitalEdges_10 (by decide) ?_
  refine r_istore_3 dX7_vitalEdges_11 ?_
  exact vit_loop ok h (NT.E t) 0 0 h (by omega) sc.1 Fr.rf

set_option maxRecDepth 100000 in
set_option maxHeartbeats 4000000 in
theorem mvit {t : NT} (ok : okT t) (h0 : PH) : ∀ (m e : Nat) (acc : Int32) (h : PH), e + m = NT.E t → SolM h t (solveS (snOf t)) → FM slS slF h0 h → RT mX8_vital 9 33 [some (.ref 74), some (.int (dryS (NT.J t) (trS (snOf t) (solveS (snOf t)).1))), some (.int acc), some (.int (nI e))] [] h (fun a h' => a = some (.int (vtS t m e acc)) ∧ (SolM h' t (solveS (snOf t)) ∧ FM slS slF h0 h')) := by
  have hE14 := ok.2.2.1
  intro m
  induction m with
  | zero =>
    intro e acc h he sm fr
    refine r_iload_3 dX8_vital_33 ?_
    refine r_aload_0 dX8_vital_34 ?_
    refine r_getI dX8_vital_35 fl_X8_232 rfl ?_
    rw [sm.1.2.1]
    refine r_icmpN_ge 69 dX8_vital_38 (by decide) (by omega) (by omega) (fun c_38 => ?_) (fun c_38 => by omega)
    refine r_iload_2 dX8_vital_69 ?_
    refine r_iret dX8_vital_70 rfl ?_
    exact ⟨rfl, sm, fr⟩
  | succ m ih =>
    intro e acc h he sm fr
    have o0 : acc ||| 0 = acc := by simp
    simp only [vtS]
    by_cases hd : (dcS t ((1 : Int32) <<< (nI e &&& 31)) &&& ((dryS (NT.J t) (trS (snOf t) (solveS (snOf t)).1)) ^^^ -1)) = 0
    · rw [if_pos hd]
      refine r_iload_3 dX8_vital_33 ?_
      refine r_aload_0 dX8_vital_34 ?_
      refine r_getI dX8_vital_35 fl_X8_232 rfl ?_
      rw [sm.1.2.1]
      refine r_icmpN_ge 69 dX8_vital_38 (by decide) (by omega) (by omega) (fun c_38 => by omega) (fun c_38 => ?_)
      refine r_iload_2 dX8_vital_41 ?_
      refine r_aload_0 dX8_vital_42 ?_
      refine r_iload_3 dX8_vital_43 ?_
      refine r_cVQ1 mX8_dryWithout dX8_vital_44 ml_X8_449 mo_X8_dryWithout rfl (q_dryW1 ok sm.1 _) (by decide) (fun h1 p1 => ?_)
      refine r_iload_1 dX8_vital_47 ?_
      refine r_iconst (v := (-1)) dX8_vital_48 (by decide) ?_
      refine r_ixor dX8_vital_49 ?_
      refine r_iand dX8_vital_50 ?_
      refine r_if_eq 60 dX8_vital_51 (by decide) (fun c_51 => ?_) (fun c_51 => by exact absurd hd c_51)
      refine r_iconst (v := 0) dX8_vital_60 (by decide) ?_
      refine r_ior dX8_vital_61 ?_
      rw [o0]
      refine r_istore_2 dX8_vital_62 ?_
      refine r_iincN_3 dX8_vital_63 ?_
      refine r_goto 33 dX8_vital_66 (by decide) ?_
      exact ih (e + 1) _ h1 (by omega) p1.1 (fr.tr p1.2)
    · rw [if_neg hd]
      refine r_iload_3 dX8_vital_33 ?_
      refine r_aload_0 dX8_vital_34 ?_
      refine r_getI dX8_vital_35 fl_X8_232 rfl ?_
      rw [sm.1.2.1]
      refine r_icmpN_ge 69 dX8_vital_38 (by decide) (by omega) (by omega) (fun c_38 => by omega) (fun c_38 => ?_)
      refine r_iload_2 dX8_vital_41 ?_
      refine r_aload_0 dX8_vital_42 ?_
      refine r_iload_3 dX8_vital_43 ?_
      refine r_cVQ1 mX8_dryWithout dX8_vital_44 ml_X8_449 mo_X8_dryWithout rfl (q_dryW1 ok sm.1 _) (by decide) (fun h1 p1 => ?_)
      refine r_iload_1 dX8_vital_47 ?_
      refine r_iconst (v := (-1)) dX8_vital_48 (by decide) ?_
      refine r_ixor dX8_vital_49 ?_
      refine r_iand dX8_vital_50 ?_
      refine r_if_eq 60 dX8_vital_51 (by decide) (fun c_51 => by exact absurd c_51 hd) (fun c_51 => ?_)
      refine r_iconst (v := 1) dX8_vital_54 (by decide) ?_
      refine r_iload_3 dX8_vital_55 ?_
      refine r_ishl dX8_vital_56 ?_
      refine r_goto 61 dX8_vital_57 (by decide) ?_
      refine r_ior dX8_vital_61 ?_
      refine r_istore_2 dX8_vital_62 ?_
      refine r_iincN_3 dX8_vital_63 ?_
      refine r_goto 33 dX8_vital_66 (by decide) ?_
      exact ih (e + 1) _ h1 (by omega) p1.1 (fr.tr p1.2)
set_option maxRecDepth 100000 in
set_option maxHeartbeats 4000000 in
theorem o_vital {h : PH} (i : INV h) : Same2 mX7_vital 8 [.ref 0] mX8_vital 9 [.ref 74] h := by
  have i0 := i
  obtain ⟨n0, bs, tr, fl, wp, t, nm, ac, ms, i1, i2, i3, i4, i5, i6⟩ := i
  have hb := i3.e
  have f6 : ∀ {h1 : PH} {y : Int32}, PC h y h1 → h1.1 74 6 = nI (NT.J t) := fun p => by rw [(p.kM 74 (by omega)).1]; exact i6.1
  have pr : ∀ y, PC h y (clH h y) := fun y => Fr.rf
  by_cases hJ : 0 < NT.J t
  · obtain ⟨tx, nok, mok, sc, nac, acc, mec⟩ := (i3.k (clH_kC (x := 0))).2.2.2 hJ
    have ok := tx.1
    refine ⟨.int (vtS t (NT.E t) 0 0), PC h 0, fun h1 h2 => SolM h2 t (solveS (snOf t)) ∧ FM slS slF (rfH h1 0) h2, ?_, fun h1 p => ?_, fun h1 h2 p q => inv_paper i1 i2 i3 i4 i5 (by decide) p q.2 (MX.fm ((i6.k p.kM).rf 0) q.1 q.2 hJ)⟩
    · refine Con.mk (by decide) ?_
      show RT _ _ 0 [some (.ref 0)] [] _ _
      refine r_aload_0 dX7_vital_0 ?_
      refine r_cV0 mX7_hasText dX7_vital_1 ml_X7_101 mo_X7_hasText rfl (k_hasText hb.1 i3.1) (by decide) ?_
      rw [b2i_t hJ]
      refine r_if_ne 13 dX7_vital_4 (by decide) (fun c_4 => ?_) (fun c_4 => by exact absurd c_4 (by decide))
      refine r_aload_0 dX7_vital_13 ?_
      refine r_cW0 mX7_allow dX7_vital_14 ml_X7_79 mo_X7_allow rfl (k_allow h) (by decide) ?_
      refine r_aload_0 dX7_vital_17 ?_
      refine r_cVQ0 mX7_vitalEdges dX7_vital_18 ml_X7_259 mo_X7_vitalEdges rfl (k_vital ok sc) (by decide) (fun h1 p1 => ?_)
      refine r_iret dX7_vital_21 rfl ?_
      exact ⟨rfl, p1⟩
    · obtain ⟨-, -, m44, m46, -, mm⟩ := (i6.k p.kM).rf 0
      obtain ⟨rwm, sm, nam, acm, mem⟩ := mm hJ
      refine Con.mk (by decide) ?_
      show RT _ _ 0 [some (.ref 74), none, none, none] [] _ _
      refine r_aload_0 dX8_vital_0 ?_
      refine r_aload_0 dX8_vital_1 ?_
      refine r_getI dX8_vital_2 fl_X8_229 rfl ?_
      rw [f6 p]
      refine r_if_le 12 dX8_vital_5 (by decide) (fun c_5 => by exact absurd c_5 (nI_nle hJ (by omega))) (fun c_5 => ?_)
      refine r_iconst (v := 1) dX8_vital_8 (by decide) ?_
      refine r_goto 13 dX8_vital_9 (by decide) ?_
      refine r_cS1 mX8_unless dX8_vital_13 ml_X8_330 mo_X8_unless (q_unless _ _) (by decide) ?_
      rw [un1]
      refine r_cV1 mX8_isRefused dX8_vital_16 ml_X8_245 mo_X8_isRefused rfl (q_isRefused _ _) (by decide) ?_
      rw [b2i_f (by decide)]
      refine r_if_eq 24 dX8_vital_19 (by decide) (fun c_19 => ?_) (fun c_19 => by exact absurd rfl c_19)
      refine r_aload_0 dX8_vital_24 ?_
      refine r_cV0 mX8_dryBits dX8_vital_25 ml_X8_391 mo_X8_dryBits rfl (q_dry ok _ sm.1 sm.2.2.2.2.2.1) (by decide) ?_
      refine r_istore_1 dX8_vital_28 ?_
      refine r_iconst (v := 0) dX8_vital_29 (by decide) ?_
      refine r_istore_2 dX8_vital_30 ?_
      refine r_iconst (v := nI 0) dX8_vital_31 (by decide) ?_
      refine r_istore_3 dX8_vital_32 ?_
      exact mvit ok _ (NT.E t) 0 0 _ (by omega) sm FM.rf
  · have hJ0 : NT.J t = 0 := by omega
    refine Same.to2 i0 ⟨.int (-1), 1, by decide, ?_, ?_⟩
    · refine Con.mk (by decide) ?_
      show RT _ _ 0 [some (.ref 0)] [] _ _
      refine r_aload_0 dX7_vital_0 ?_
      refine r_cV0 mX7_hasText dX7_vital_1 ml_X7_101 mo_X7_hasText rfl (k_hasText hb.1 i3.1) (by decide) ?_
      rw [b2i_f hJ]
      refine r_if_ne 13 dX7_vital_4 (by decide) (fun c_4 => by exact absurd rfl c_4) (fun c_4 => ?_)
      refine r_aload_0 dX7_vital_7 ?_
      refine r_iconst (v := 1) dX7_vital_8 (by decide) ?_
      refine r_cV1 mX7_refuse dX7_vital_9 ml_X7_65 mo_X7_refuse rfl (k_refuse h 1) (by decide) ?_
      refine r_iret dX7_vital_12 rfl ?_
      exact ⟨rfl, rfl⟩
    · refine Con.mk (by decide) ?_
      show RT _ _ 0 [some (.ref 74), none, none, none] [] _ _
      refine r_aload_0 dX8_vital_0 ?_
      refine r_aload_0 dX8_vital_1 ?_
      refine r_getI dX8_vital_2 fl_X8_229 rfl ?_
      rw [f6 (pr 1), hJ0]
      refine r_if_le 12 dX8_vital_5 (by decide) (fun c_5 => ?_) (fun c_5 => by exact absurd (show nI 0 ≤ 0 by decide) c_5)
      refine r_iconst (v := 0) dX8_vital_12 (by decide) ?_
      refine r_cS1 mX8_unless dX8_vital_13 ml_X8_330 mo_X8_unless (q_unless _ _) (by decide) ?_
      rw [un0]
      refine r_cV1 mX8_isRefused dX8_vital_16 ml_X8_245 mo_X8_isRefused rfl (q_isRefused _ _) (by decide) ?_
      rw [b2i_t (by decide)]
      refine r_if_eq 24 dX8_vital_19 (by decide) (fun c_19 => by exact absurd c_19 (by decide)) (fun c_19 => ?_)
      refine r_iconst (v := (-1)) dX8_vital_22 (by decide) ?_
      refine r_iret dX8_vital_23 rfl ?_
      exact ⟨rfl, rfl⟩

