/-! ===== both: what is dry if some edges are closed; cut ===== -/
theorem NetC.cl {h : PH} {o : Nat} {t : NT} (c : NetC h o t) (y : Int32) : NetC (pI h o 3 y) o (setCl t y) := by
  have z : ∀ k, k ≠ 3 → (pI h o 3 y).1 o k = h.1 o k := fun k hk => pI_ne o k (Or.inr hk)
  have g : ∀ i, 0 < i → (pI h o 3 y).1 (o + i) = h.1 (o + i) := fun i hi => funext fun j => pI_ne _ j (Or.inl (by omega))
  obtain ⟨c1, c2, c3, c4, c5, c6⟩ := c
  refine ⟨(z 0 (by decide)).trans c1, (z 1 (by decide)).trans c2, (z 2 (by decide)).trans c3, pI_eq, fun j hj => ?_, fun e he => ?_⟩
  · rw [g 2 (by decide), g 3 (by decide)]; exact c5 j hj
  · rw [g 4 (by decide), g 5 (by decide), g 6 (by decide), g 7 (by decide), g 8 (by decide), g 9 (by decide)]; exact c6 e he
theorem NetM.cl {h : PH} {t : NT} (c : NetM h t) (y : Int32) : NetM (pI h 74 17 y) (setCl t y) := by
  have z : ∀ k, k ≠ 17 → (pI h 74 17 y).1 74 k = h.1 74 k := fun k hk => pI_ne 74 k (Or.inr hk)
  have g : ∀ i, i ≠ 74 → (pI h 74 17 y).1 i = h.1 i := fun i hi => funext fun j => pI_ne _ j (Or.inl hi)
  obtain ⟨c1, c2, c3, c4, c5, c6, c7⟩ := c
  refine ⟨(z 6 (by decide)).trans c1, (z 7 (by decide)).trans c2, by rw [g 76 (by decide)]; exact c3, pI_eq, fun j h1 h2 => ?_, fun j hj => by rw [g 77 (by decide)]; exact c6 j hj, fun e he => ?_⟩
  · have e : drE (pI h 74 17 y) j = drE h j := by unfold drE; rw [g 76 (by decide), z 44 (by decide), z 45 (by decide), z 46 (by decide)]
    rw [e]; exact c5 j h1 h2
  · rw [g 79 (by decide), g 80 (by decide), g 81 (by decide), g 82 (by decide), g 83 (by decide), g 84 (by decide)]; exact c7 e he
def dcS (t : NT) (x : Int32) : Int32 := dryS (NT.J t) (trS (snOf (setCl t (NT.cl t ||| x))) (solveS (snOf (setCl t (NT.cl t ||| x)))).1)
theorem okT.cl {t : NT} (ok : okT t) (y : Int32) : okT (setCl t y) := ok
set_option maxRecDepth 100000 in
set_option maxHeartbeats 4000000 in
theorem k_dryIf {h : PH} {t : NT} (ok : okT t) (nc : NetC h 15 t) (x : Int32) : Con mX7_dryIfClosed 6 [.ref 0, .int x] h (fun a h' => a = some (.int (dcS t x)) ∧ Fr pap h h') := by
  refine Con.mk (by decide) ?_
  show RT _ _ 0 [some (.ref 0), some (.int x)] [] _ _
  refine r_aload_0 dX7_dryIfClosed_0 ?_
  refine r_getR (a := 42) dX7_dryIfClosed_1 fl_X7_41 rfl rfl ?_
  refine r_aload_0 dX7_dryIfClosed_4 ?_
  refine r_getR (a := 15) dX7_dryIfClosed_5 fl_X7_37 rfl rfl ?_
  refine r_cWQ1 mX2_copyFrom dX7_dryIfClosed_8 ml_X7_83 mo_X2_copyFrom rfl (k_copy_42_15 h) (by decide) (fun h2 p2 => ?_)
  have nc2 : NetC h2 42 t := p2.net ok nc
  have ecl : h2.1 42 3 = NT.cl t := nc2.2.2.2.1
  refine r_aload_0 dX7_dryIfClosed_11 ?_
  refine r_getR (a := 42) dX7_dryIfClosed_12 fl_X7_41 rfl rfl ?_
  refine r_dupr dX7_dryIfClosed_15 ?_
  refine r_getI dX7_dryIfClosed_16 fl_X7_154 rfl ?_
  rw [ecl]
  refine r_iload_1 dX7_dryIfClosed_19 ?_
  refine r_ior dX7_dryIfClosed_20 ?_
  refine r_putI dX7_dryIfClosed_21 fl_X7_154 rfl rfl rfl ?_
  refine r_aload_0 dX7_dryIfClosed_24 ?_
  refine r_getR (a := 41) dX7_dryIfClosed_25 fl_X7_38 rfl rfl ?_
  refine r_cWQ0 mX6_solve dX7_dryIfClosed_28 ml_X7_248 mo_X6_solve rfl (k_solve isW41 (ok.cl (NT.cl t ||| x)) (nc2.cl (NT.cl t ||| x))) (by decide) (fun h3 p3 => ?_)
  obtain ⟨s3, f3⟩ := p3
  refine r_aload_0 dX7_dryIfClosed_31 ?_
  refine r_getR (a := 41) dX7_dryIfClosed_32 fl_X7_38 rfl rfl ?_
  refine r_cV0 mX6_dryJoints dX7_dryIfClosed_35 ml_X7_129 mo_X6_dryJoints rfl (k_dry isW41 (ok.cl (NT.cl t ||| x)) _ s3.1 s3.2.2.2.2.2.1) (by decide) ?_
  refine r_iret dX7_dryIfClosed_38 rfl ?_
  exact ⟨rfl, ((p2.2.2.2.2.wk (fun _ q => cp_pap q)).pI ⟨by omega, by omega⟩).tr (f3.wk (fun _ q => rg_pap q))⟩

set_option maxRecDepth 100000 in
set_option maxHeartbeats 4000000 in
theorem q_dryWith {h : PH} {t : NT} (ok : okT t) (nc : NetM h t) (x : Int32) : Con mX8_dryWithoutAll 7 [.ref 74, .int x] h (fun a h' => a = some (.int (dcS t x)) ∧ (SolM h' t (solveS (snOf t)) ∧ FM slS slF h h')) := by
  refine Con.mk (by decide) ?_
  show RT _ _ 0 [some (.ref 74), some (.int x), none, none] [] _ _
  refine r_aload_0 dX8_dryWithoutAll_0 ?_
  refine r_getI dX8_dryWithoutAll_1 fl_X8_235 rfl ?_
  rw [nc.2.2.2.1]
  refine r_istore_2 dX8_dryWithoutAll_4 ?_
  refine r_aload_0 dX8_dryWithoutAll_5 ?_
  refine r_dupr dX8_dryWithoutAll_6 ?_
  refine r_getI dX8_dryWithoutAll_7 fl_X8_235 rfl ?_
  rw [nc.2.2.2.1]
  refine r_iload_1 dX8_dryWithoutAll_10 ?_
  refine r_ior dX8_dryWithoutAll_11 ?_
  refine r_putI dX8_dryWithoutAll_12 fl_X8_235 rfl rfl rfl ?_
  refine r_aload_0 dX8_dryWithoutAll_15 ?_
  refine r_cWQ0 mX8_solves dX8_dryWithoutAll_16 ml_X8_260 mo_X8_solves rfl (q_solves (ok.cl (NT.cl t ||| x)) (nc.cl (NT.cl t ||| x))) (by decide) (fun h1 p1 => ?_)
  obtain ⟨s1, f1⟩ := p1
  refine r_aload_0 dX8_dryWithoutAll_19 ?_
  refine r_cV0 mX8_dryBits dX8_dryWithoutAll_20 ml_X8_391 mo_X8_dryBits rfl (q_dry (ok.cl (NT.cl t ||| x)) _ s1.1 s1.2.2.2.2.2.1) (by decide) ?_
  refine r_istore_3 dX8_dryWithoutAll_23 ?_
  refine r_aload_0 dX8_dryWithoutAll_24 ?_
  refine r_iload_2 dX8_dryWithoutAll_25 ?_
  refine r_putI dX8_dryWithoutAll_26 fl_X8_235 rfl rfl rfl ?_
  refine r_aload_0 dX8_dryWithoutAll_29 ?_
  refine r_cWQ0 mX8_solves dX8_dryWithoutAll_30 ml_X8_260 mo_X8_solves rfl (q_solves ok (show NetM (pI h1 74 17 (NT.cl t)) t from s1.1.cl (NT.cl t))) (by decide) (fun h2 p2 => ?_)
  obtain ⟨s2, f2⟩ := p2
  refine r_iload_3 dX8_dryWithoutAll_33 ?_
  refine r_iret dX8_dryWithoutAll_34 rfl ?_
  refine ⟨rfl, s2, fun k hk => ?_, fun y h1' h2' => ?_, fun q => (f2.2.2 q).trans (f1.2.2 q)⟩
  · rw [f2.1 k hk]
    by_cases q : k = 17
    · rw [q]; exact pI_eq.trans nc.2.2.2.1.symm
    · rw [pI_ne 74 k (Or.inr q), f1.1 k hk, pI_ne 74 k (Or.inr q)]
  · have a1 := f2.2.1 y h1' h2'
    have a2 := f1.2.1 y h1' h2'
    refine ⟨?_, a1.2.trans a2.2⟩
    rw [a1.1]
    refine (funext fun j => pI_ne y j (Or.inl h1')).trans ?_
    rw [a2.1]
    exact funext fun j => pI_ne y j (Or.inl h1')

set_option maxRecDepth 100000 in
set_option maxHeartbeats 4000000 in
theorem q_dryW1 {h : PH} {t : NT} (ok : okT t) (nc : NetM h t) (x : Int32) : Con mX8_dryWithout 8 [.ref 74, .int x] h (fun a h' => a = some (.int (dcS t ((1 : Int32) <<< (x &&& 31)))) ∧ (SolM h' t (solveS (snOf t)) ∧ FM slS slF h h')) := by
  refine Con.mk (by decide) ?_
  show RT _ _ 0 [some (.ref 74), some (.int x)] [] _ _
  refine r_aload_0 dX8_dryWithout_0 ?_
  refine r_iconst (v := 1) dX8_dryWithout_1 (by decide) ?_
  refine r_iload_1 dX8_dryWithout_2 ?_
  refine r_ishl dX8_dryWithout_3 ?_
  refine r_cVQ1 mX8_dryWithoutAll dX8_dryWithout_4 ml_X8_446 mo_X8_dryWithoutAll rfl (q_dryWith ok nc _) (by decide) (fun h1 p1 => ?_)
  refine r_iret dX8_dryWithout_7 rfl ?_
  exact ⟨rfl, p1⟩

set_option maxRecDepth 100000 in
set_option maxHeartbeats 4000000 in
theorem o_cut {h : PH} (i : INV h) (x : Int32) : Same2 mX7_cut 7 [.ref 0, .int x] mX8_cut 9 [.ref 74, .int x] h := by
  have i0 := i
  obtain ⟨n0, bs, tr, fl, wp, t, nm, ac, ms, i1, i2, i3, i4, i5, i6⟩ := i
  have hb := i3.e
  have f7 : ∀ {h1 : PH} {y : Int32}, PC h y h1 → h1.1 74 7 = nI (NT.E t) := fun p => by rw [(p.kM 74 (by omega)).1]; exact i6.2.1
  have pr : ∀ y, PC h y (clH h y) := fun y => Fr.rf
  by_cases hx : 0 ≤ x ∧ x < nI (NT.E t)
  · obtain ⟨e, he, rfl⟩ := ex_nat hb.2 hx
    have hJ : 0 < NT.J t := i3.je he
    obtain ⟨tx, nok, mok, sc, nac, acc, mec⟩ := (i3.k (clH_kC (x := 0))).2.2.2 hJ
    have ok := tx.1
    have nc : NetC (clH h 0) 15 t := sc.1
    refine ⟨.int (dcS t ((1 : Int32) <<< (nI e &&& 31))), PC h 0, fun h1 h2 => SolM h2 t (solveS (snOf t)) ∧ FM slS slF (rfH h1 0) h2, ?_, fun h1 p => ?_, fun h1 h2 p q => inv_paper i1 i2 i3 i4 i5 (by decide) p q.2 (MX.fm ((i6.k p.kM).rf 0) q.1 q.2 hJ)⟩
    · refine Con.mk (by decide) ?_
      show RT _ _ 0 [some (.ref 0), some (.int (nI e))] [] _ _
      refine r_aload_0 dX7_cut_0 ?_
      refine r_getR (a := 15) dX7_cut_1 fl_X7_37 rfl rfl ?_
      refine r_iload_1 dX7_cut_4 ?_
      refine r_cV1 mX2_hasEdge dX7_cut_5 ml_X7_137 mo_X2_hasEdge rfl (k_X2_hasEdge isN15 h (nI e)) (by decide) ?_
      rw [i3.2.1, b2i_t hx]
      refine r_if_ne 17 dX7_cut_8 (by decide) (fun c_8 => ?_) (fun c_8 => by exact absurd c_8 (by decide))
      refine r_aload_0 dX7_cut_17 ?_
      refine r_cW0 mX7_allow dX7_cut_18 ml_X7_79 mo_X7_allow rfl (k_allow h) (by decide) ?_
      refine r_aload_0 dX7_cut_21 ?_
      refine r_iconst (v := 1) dX7_cut_22 (by decide) ?_
      refine r_iload_1 dX7_cut_23 ?_
      refine r_ishl dX7_cut_24 ?_
      refine r_cVQ1 mX7_dryIfClosed dX7_cut_25 ml_X7_262 mo_X7_dryIfClosed rfl (k_dryIf ok nc _) (by decide) (fun h1 p1 => ?_)
      refine r_iret dX7_cut_28 rfl ?_
      exact ⟨rfl, p1⟩
    · obtain ⟨-, -, m44, m46, -, mm⟩ := (i6.k p.kM).rf 0
      obtain ⟨rwm, sm, nam, acm, mem⟩ := mm hJ
      have ncm := sm.1
      refine Con.mk (by decide) ?_
      show RT _ _ 0 [some (.ref 74), some (.int (nI e))] [] _ _
      refine r_aload_0 dX8_cut_0 ?_
      refine r_aload_0 dX8_cut_1 ?_
      refine r_iload_1 dX8_cut_2 ?_
      refine r_cV1 mX8_isEdge dX8_cut_3 ml_X8_317 mo_X8_isEdge rfl (q_isEdge _ hb.2 (f7 p) _) (by decide) ?_
      refine r_cS1 mX8_unless dX8_cut_6 ml_X8_330 mo_X8_unless (q_unless _ _) (by decide) ?_
      rw [goods hx]
      refine r_cV1 mX8_isRefused dX8_cut_9 ml_X8_245 mo_X8_isRefused rfl (q_isRefused _ _) (by decide) ?_
      rw [b2i_f (by decide)]
      refine r_if_eq 19 dX8_cut_12 (by decide) (fun c_12 => ?_) (fun c_12 => by exact absurd rfl c_12)
      refine r_aload_0 dX8_cut_19 ?_
      refine r_iload_1 dX8_cut_20 ?_
      refine r_cVQ1 mX8_dryWithout dX8_cut_21 ml_X8_449 mo_X8_dryWithout rfl (q_dryW1 ok ncm _) (by decide) (fun h3 p3 => ?_)
      refine r_iret dX8_cut_24 rfl ?_
      exact ⟨rfl, p3⟩
  · refine Same.to2 i0 ⟨.int (-1), 1, by decide, ?_, ?_⟩
    · refine Con.mk (by decide) ?_
      show RT _ _ 0 [some (.ref 0), some (.int x)] [] _ _
      refine r_aload_0 dX7_cut_0 ?_
      refine r_getR (a := 15) dX7_cut_1 fl_X7_37 rfl rfl ?_
      refine r_iload_1 dX7_cut_4 ?_
      refine r_cV1 mX2_hasEdge dX7_cut_5 ml_X7_137 mo_X2_hasEdge rfl (k_X2_hasEdge isN15 h x) (by decide) ?_
      rw [i3.2.1, b2i_f hx]
      refine r_if_ne 17 dX7_cut_8 (by decide) (fun c_8 => by exact absurd rfl c_8) (fun c_8 => ?_)
      refine r_aload_0 dX7_cut_11 ?_
      refine r_iconst (v := 1) dX7_cut_12 (by decide) ?_
      refine r_cV1 mX7_refuse dX7_cut_13 ml_X7_65 mo_X7_refuse rfl (k_refuse h 1) (by decide) ?_
      refine r_iret dX7_cut_16 rfl ?_
      exact ⟨rfl, rfl⟩
    · refine Con.mk (by decide) ?_
      show RT _ _ 0 [some (.ref 74), some (.int x)] [] _ _
      refine r_aload_0 dX8_cut_0 ?_
      refine r_aload_0 dX8_cut_1 ?_
      refine r_iload_1 dX8_cut_2 ?_
      refine r_cV1 mX8_isEdge dX8_cut_3 ml_X8_317 mo_X8_isEdge rfl (q_isEdge _ hb.2 (f7 (pr 1)) _) (by decide) ?_
      refine r_cS1 mX8_unless dX8_cut_6 ml_X8_330 mo_X8_unless (q_unless _ _) (by decide) ?_
      rw [bads hx]
      refine r_cV1 mX8_isRefused dX8_cut_9 ml_X8_245 mo_X8_isRefused rfl (q_isRefused _ _) (by decide) ?_
      rw [b2i_t (by decide)]
      refine r_if_eq 19 dX8_cut_12 (by decide) (fun c_12 => by exact absurd c_12 (by decide)) (fun c_12 => ?_)
      refine r_iconst (v := (-1)) dX8_cut_15 (by decide) ?_
      refine r_goto 24 dX8_cut_16 (by decide) ?_
      refine r_iret dX8_cut_24 rfl ?_
      exact ⟨rfl, rfl⟩

