/-! ===== both: forget ===== -/
def noM : MES := fun _ => none
theorem CX.fg {h : PH} {t : NT} {nm : NMS} {ac : List NT} {ms : MES} (c : CX h t nm ac ms) : CX (pI h 72 0 0) t nm ac noM := by
  have g : ∀ y, y ≠ 72 → (pI h 72 0 0).1 y = h.1 y := fun y hy => funext fun j => pI_ne y j (Or.inl hy)
  have f : Fr (fun y => y = 72) h (pI h 72 0 0) := Fr.rf.pI rfl
  obtain ⟨c1, c2, c3, c4⟩ := c
  refine ⟨by rw [g 15 (by decide)]; exact c1, by rw [g 15 (by decide)]; exact c2, c3, fun h0 => ?_⟩
  obtain ⟨d1, d2, d3, d4, d5, d6, d7⟩ := c4 h0
  refine ⟨d1, d2, fun j v q => (by cases q), ?_, d5, ?_, ?_⟩
  · obtain ⟨s1, s2, s3, s4, s5, s6, s7, s8, s9⟩ := d4
    exact ⟨s1.fr f (fun j hj q => by omega), by rw [g 14 (by decide)]; exact s2, by rw [g 14 (by decide)]; exact s3, by rw [g 14 (by decide)]; exact s4, by rw [g 14 (by decide)]; exact s5, s6.fr f (fun j hj q => by omega), s7.fr f (fun j hj q => by omega), s8, s9⟩
  · unfold ActC; rw [g 68 (by decide), g 69 (by decide), g 70 (by decide), g 71 (by decide)]; exact d6
  · refine ⟨fun j hj => ?_, fun j v q => (by cases q), ?_⟩
    · rw [pI_eq, b_0]; rfl
    · rw [pI_ne 72 2 (Or.inr (by decide))]
      rcases d7.2.2 with q | q
      · exact Or.inl q
      · exact Or.inr ⟨q.1, Or.inl (fun _ => rfl)⟩
set_option maxRecDepth 100000 in
set_option maxHeartbeats 4000000 in
theorem k_clear (h : PH) : ConF mX1_clear 1 [.ref 72] h none (pI h 72 0 0) := by
  refine Con.mk (by decide) ?_
  show RT _ _ 0 [some (.ref 72)] [] _ _
  refine r_aload_0 dX1_clear_0 ?_
  refine r_iconst (v := 0) dX1_clear_1 (by decide) ?_
  refine r_putI dX1_clear_2 fl_X1_15 rfl rfl rfl ?_
  refine r_vret dX1_clear_5 rfl ?_
  exact ⟨rfl, rfl⟩

set_option maxRecDepth 100000 in
set_option maxHeartbeats 4000000 in
theorem mforget (h0 : PH) (v : Int32) : ∀ (m j : Nat) (h : PH), j + m = 9 → (∀ i, i < j → h.1 94 i = 0) → FM (fun y => y = 94) noF h0 h → RT mX8_forget 2 31 [some (.ref 74), some (.int v), some (.int (nI j))] [] h (fun a h' => a = some (.int v) ∧ ((∀ i, i < 9 → h'.1 94 i = 0) ∧ FM (fun y => y = 94) noF h0 h')) := by
  intro m
  induction m with
  | zero =>
    intro j h hj hz fr
    have : j = 9 := by omega
    subst this
    refine r_iload_2 dX8_forget_31 ?_
    refine r_bipush (v := nI 9) dX8_forget_32 (by decide) ?_
    refine r_icmpN_ge 50 dX8_forget_34 (by decide) (by omega) (by omega) (fun c_34 => ?_) (fun c_34 => by omega)
    refine r_iload_1 dX8_forget_50 ?_
    refine r_iret dX8_forget_51 rfl ?_
    exact ⟨rfl, hz, fr⟩
  | succ m ih =>
    intro j h hj hz fr
    refine r_iload_2 dX8_forget_31 ?_
    refine r_bipush (v := nI 9) dX8_forget_32 (by decide) ?_
    refine r_icmpN_ge 50 dX8_forget_34 (by decide) (by omega) (by omega) (fun c_34 => by omega) (fun c_34 => ?_)
    refine r_aload_0 dX8_forget_37 ?_
    refine r_getR (a := 94) dX8_forget_38 fl_X8_80 rfl rfl ?_
    refine r_iload_2 dX8_forget_41 ?_
    refine r_iconst (v := 0) dX8_forget_42 (by decide) ?_
    refine r_zastN dX8_forget_43 rfl (by omega) ?_
    refine r_iincN_2 dX8_forget_44 ?_
    refine r_goto 31 dX8_forget_47 (by decide) ?_
    refine ih (j + 1) _ (by omega) (fun i hi => ?_) (fr.pI (by decide) rfl)
    by_cases q : i = j
    · rw [q]; first | exact pI_eq | (rw [pI_eq]; decide)
    · rw [pI_ne 94 i (Or.inr q)]; exact hz i (by omega)

set_option maxRecDepth 100000 in
set_option maxHeartbeats 4000000 in
theorem o_forget {h : PH} (i : INV h) : Same2 mX7_forget 3 [.ref 0] mX8_forget 2 [.ref 74] h := by
  have i0 := i
  obtain ⟨n0, bs, tr, fl, wp, t, nm, ac, ms, i1, i2, i3, i4, i5, i6⟩ := i
  have hb := i3.e
  have f6 : ∀ y, (clH h y).1 74 6 = nI (NT.J t) := fun y => by rw [clH_1 (by decide)]; exact i6.1
  by_cases hJ : 0 < NT.J t
  · obtain ⟨tx, nok, mok, sc, nac, acc, mec⟩ := (i3.k (clH_kC (x := 0))).2.2.2 hJ
    have ok := tx.1
    have n9 := mok.n9 ok
    have kc : kM (clH h 0) (pI (clH h 0) 72 0 0) := fun y hy => ⟨funext fun j => pI_ne y j (Or.inl (by omega)), rfl⟩
    have i7 := (((i6.k (clH_kM (x := 0))).k kc).rf 0)
    obtain ⟨e1, e2, e3, e4, e5, e6⟩ := i7
    obtain ⟨rwm, sm, nam, acm, mem⟩ := e6 hJ
    refine ⟨.int (cnM ms), fun h1 => h1 = pI (clH h 0) 72 0 0, fun h1 h2 => (∀ i, i < 9 → h2.1 94 i = 0) ∧ FM (fun y => y = 94) noF (rfH h1 0) h2, ?_, fun h1 p => ?_, fun h1 h2 p q => ?_⟩
    · refine Con.mk (by decide) ?_
      show RT _ _ 0 [some (.ref 0), none] [] _ _
      refine r_aload_0 dX7_forget_0 ?_
      refine r_cV0 mX7_hasText dX7_forget_1 ml_X7_101 mo_X7_hasText rfl (k_hasText hb.1 i3.1) (by decide) ?_
      rw [b2i_t hJ]
      refine r_if_ne 13 dX7_forget_4 (by decide) (fun c_4 => ?_) (fun c_4 => by exact absurd c_4 (by decide))
      refine r_aload_0 dX7_forget_13 ?_
      refine r_cW0 mX7_allow dX7_forget_14 ml_X7_79 mo_X7_allow rfl (k_allow h) (by decide) ?_
      refine r_aload_0 dX7_forget_17 ?_
      refine r_getR (a := 72) dX7_forget_18 fl_X7_54 rfl rfl ?_
      refine r_cV0 mX1_count dX7_forget_21 ml_X7_135 mo_X1_count rfl (k_count mec.1 n9) (by decide) ?_
      refine r_istore_1 dX7_forget_24 ?_
      refine r_aload_0 dX7_forget_25 ?_
      refine r_getR (a := 72) dX7_forget_26 fl_X7_54 rfl rfl ?_
      refine r_cW0 mX1_clear dX7_forget_29 ml_X7_92 mo_X1_clear rfl (k_clear _) (by decide) ?_
      refine r_iload_1 dX7_forget_32 ?_
      refine r_iret dX7_forget_33 rfl ?_
      exact ⟨rfl, rfl⟩
    · subst p
      have g6 : (pI (clH h 0) 72 0 0).1 74 6 = nI (NT.J t) := by rw [(kc 74 (by omega)).1]; exact f6 0
      refine Con.mk (by decide) ?_
      show RT _ _ 0 [some (.ref 74), none, none] [] _ _
      refine r_aload_0 dX8_forget_0 ?_
      refine r_aload_0 dX8_forget_1 ?_
      refine r_getI dX8_forget_2 fl_X8_229 rfl ?_
      rw [g6]
      refine r_if_le 12 dX8_forget_5 (by decide) (fun c_5 => by exact absurd c_5 (nI_nle hJ (by omega))) (fun c_5 => ?_)
      refine r_iconst (v := 1) dX8_forget_8 (by decide) ?_
      refine r_goto 13 dX8_forget_9 (by decide) ?_
      refine r_cS1 mX8_unless dX8_forget_13 ml_X8_330 mo_X8_unless (q_unless _ _) (by decide) ?_
      rw [un1]
      refine r_cV1 mX8_isRefused dX8_forget_16 ml_X8_245 mo_X8_isRefused rfl (q_isRefused _ _) (by decide) ?_
      rw [b2i_f (by decide)]
      refine r_if_eq 24 dX8_forget_19 (by decide) (fun c_19 => ?_) (fun c_19 => by exact absurd rfl c_19)
      refine r_aload_0 dX8_forget_24 ?_
      refine r_cV0 mX8_measuredMany dX8_forget_25 ml_X8_394 mo_X8_measuredMany rfl (q_many mem) (by decide) ?_
      refine r_istore_1 dX8_forget_28 ?_
      refine r_iconst (v := nI 0) dX8_forget_29 (by decide) ?_
      refine r_istore_2 dX8_forget_30 ?_
      exact mforget _ _ 9 0 _ (by omega) (fun i hi => by omega) FM.rf
    · subst p
      have hz := q.1
      have z : ∀ k, h2.1 74 k = (rfH (pI (clH h 0) 72 0 0) 0).1 74 k := fun k => q.2.1 k id
      have g : ∀ y, y ≠ 74 → y ≠ 94 → h2.1 y = (pI (clH h 0) 72 0 0).1 y ∧ h2.2 y = h.2 y := fun y h0 h1 => ⟨(q.2.2.1 y h0 h1).1.trans (rfH_1 h0), (q.2.2.1 y h0 h1).2⟩
      have g1 : ∀ y, y ≠ 74 → y ≠ 94 → y ≠ 72 → y ≠ 0 → h2.1 y = h.1 y := fun y h0 h1 h2' h3 => (g y h0 h1).1.trans ((funext fun j => pI_ne y j (Or.inl h2')).trans (clH_1 h3))
      have gC : h2.1 0 = (clH h 0).1 0 := (g 0 (by decide) (by decide)).1.trans (funext fun j => pI_ne 0 j (Or.inl (by decide)))
      have zz : ∀ k, k ≠ 0 → k ≠ 1 → k ≠ 3 → h2.1 74 k = h.1 74 k := fun k a b c => by rw [z k, rfH_f a b c, (kc 74 (by omega)).1, clH_1 (by decide)]
      refine ⟨n0, bs, 0, fl, -1, t, nm, ac, noM, ?_, ?_, ?_, ?_, ?_, ?_⟩
      · refine ⟨?_, i1.2.1, fun j hj => ?_⟩
        · rw [gC]; exact ((pI_ne 0 1 (Or.inr (by decide))).trans (pI_ne 0 1 (Or.inr (by decide)))).trans i1.1
        · rw [g1 1 (by decide) (by decide) (by decide) (by decide)]; exact i1.2.2 j hj
      · refine ⟨?_, ?_, ?_⟩
        · rw [gC]; exact (pI_ne 0 4 (Or.inr (by decide))).trans pI_eq
        · rw [gC]; exact ((pI_ne 0 2 (Or.inr (by decide))).trans (pI_ne 0 2 (Or.inr (by decide)))).trans i2.2.1
        · rw [gC]; exact pI_eq
      · exact ((i3.k (clH_kC (x := 0))).fg).k (fun y h1 h2' => g y (by omega) (by omega))
      · refine ⟨(zz 5 (by decide) (by decide) (by decide)).trans i4.1, i4.2.1, fun j hj => ?_⟩
        rw [g1 75 (by decide) (by decide) (by decide) (by decide)]; exact i4.2.2 j hj
      · exact ⟨(z 1).trans pI_eq, (zz 2 (by decide) (by decide) (by decide)).trans i5.2.1, fun q => absurd q (by decide), fun _ => rfl⟩
      · have kk : ∀ y, 74 < y → y ≠ 94 → h2.1 y = (rfH (pI (clH h 0) 72 0 0) 0).1 y := fun y h0 h1 => (q.2.2.1 y (by omega) h1).1
        have k74 : h2.1 74 = (rfH (pI (clH h 0) 72 0 0) 0).1 74 := funext z
        refine ⟨by rw [k74]; exact e1, by rw [k74]; exact e2, by rw [k74]; exact e3, by rw [k74]; exact e4, fun q => by omega, fun _ => ⟨?_, ?_, ?_, ?_, ?_⟩⟩
        · unfold RawM; rw [k74, kk 76 (by omega) (by omega), kk 77 (by omega) (by omega), kk 79 (by omega) (by omega), kk 80 (by omega) (by omega), kk 81 (by omega) (by omega), kk 82 (by omega) (by omega), kk 83 (by omega) (by omega), kk 84 (by omega) (by omega)]; exact rwm
        · unfold SolM NetM drE TreeM RingsM RAtM
          rw [k74, kk 76 (by omega) (by omega), kk 77 (by omega) (by omega), kk 79 (by omega) (by omega), kk 80 (by omega) (by omega), kk 81 (by omega) (by omega), kk 82 (by omega) (by omega), kk 83 (by omega) (by omega), kk 84 (by omega) (by omega), kk 85 (by omega) (by omega), kk 86 (by omega) (by omega), kk 88 (by omega) (by omega), kk 89 (by omega) (by omega), kk 90 (by omega) (by omega), (q.2.2.1 87 (by decide) (by decide)).2, (q.2.2.1 91 (by decide) (by decide)).2]
          exact sm
        · unfold NamM; rw [kk 78 (by omega) (by omega)]; exact nam
        · unfold ActM; rw [k74, kk 96 (by omega) (by omega), kk 97 (by omega) (by omega), kk 98 (by omega) (by omega)]; exact acm
        · exact fun j hj => ⟨hz j hj, fun v q => (by cases q)⟩
  · have hJ0 : NT.J t = 0 := by omega
    refine Same.to2 i0 ⟨.int (-1), 1, by decide, ?_, ?_⟩
    · refine Con.mk (by decide) ?_
      show RT _ _ 0 [some (.ref 0), none] [] _ _
      refine r_aload_0 dX7_forget_0 ?_
      refine r_cV0 mX7_hasText dX7_forget_1 ml_X7_101 mo_X7_hasText rfl (k_hasText hb.1 i3.1) (by decide) ?_
      rw [b2i_f hJ]
      refine r_if_ne 13 dX7_forget_4 (by decide) (fun c_4 => by exact absurd rfl c_4) (fun c_4 => ?_)
      refine r_aload_0 dX7_forget_7 ?_
      refine r_iconst (v := 1) dX7_forget_8 (by decide) ?_
      refine r_cV1 mX7_refuse dX7_forget_9 ml_X7_65 mo_X7_refuse rfl (k_refuse h 1) (by decide) ?_
      refine r_iret dX7_forget_12 rfl ?_
      exact ⟨rfl, rfl⟩
    · refine Con.mk (by decide) ?_
      show RT _ _ 0 [some (.ref 74), none, none] [] _ _
      refine r_aload_0 dX8_forget_0 ?_
      refine r_aload_0 dX8_forget_1 ?_
      refine r_getI dX8_forget_2 fl_X8_229 rfl ?_
      rw [f6 1, hJ0]
      refine r_if_le 12 dX8_forget_5 (by decide) (fun c_5 => ?_) (fun c_5 => by exact absurd (show nI 0 ≤ 0 by decide) c_5)
      refine r_iconst (v := 0) dX8_forget_12 (by decide) ?_
      refine r_cS1 mX8_unless dX8_forget_13 ml_X8_330 mo_X8_unless (q_unless _ _) (by decide) ?_
      rw [un0]
      refine r_cV1 mX8_isRefused dX8_forget_16 ml_X8_245 mo_X8_isRefused rfl (q_isRefused _ _) (by decide) ?_
      rw [b2i_t (by decide)]
      refine r_if_eq 24 dX8_forget_19 (by decide) (fun c_19 => by exact absurd c_19 (by decide)) (fun c_19 => ?_)
      refine r_iconst (v := (-1)) dX8_forget_22 (by decide) ?_
      refine r_iret dX8_forget_23 rfl ?_
      exact ⟨rfl, rfl⟩

