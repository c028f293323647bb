/-! ===== both: text ===== -/
def FZ (h h' : PH) : Prop := (∀ k, (6 ≤ k ∧ k < 18) ∨ 27 < k → h'.1 74 k = h.1 74 k) ∧ (∀ y, h'.2 y = h.2 y) ∧ ∀ y k, y ≠ 74 → (y < 76 ∨ 84 < y ∨ k < lowN y) → h'.1 y k = h.1 y k
theorem FZ.tr {h h' h'' : PH} (a : FZ h h') (b : FZ h' h'') : FZ h h'' := ⟨fun k q => (b.1 k q).trans (a.1 k q), fun y => (b.2.1 y).trans (a.2.1 y), fun y k p q => (b.2.2 y k p q).trans (a.2.2 y k p q)⟩
theorem FR.z {h h' : PH} (f : FR h h') : FZ h h' := ⟨fun k q => f.1 k (by omega), f.2.1, f.2.2⟩
theorem fz_pF {h h' : PH} (a : FZ h h') {k : Nat} {x : Int32} (hk : k < 6 ∨ (18 ≤ k ∧ k ≤ 27)) : FZ h (pI h' 74 k x) := ⟨fun j q => (pI_ne 74 j (Or.inr (by omega))).trans (a.1 j q), a.2.1, fun y j p q => (pI_ne y j (Or.inl p)).trans (a.2.2 y j p q)⟩
theorem FZ.rf {h : PH} : FZ h h := ⟨fun _ _ => rfl, fun _ => rfl, fun _ _ _ _ => rfl⟩
theorem MX.fz {h h' : PH} {t : NT} {nm : NMS} {ac : List NT} {ms : MES} (c : MX h t nm ac ms) (ok : 0 < NT.J t → okT t) (f : FZ h h') : MX h' t nm ac ms := by
  obtain ⟨z, g2, ga⟩ := f
  have gh : ∀ y, 84 < y → h'.1 y = h.1 y := fun y hy => funext fun k => ga y k (by omega) (by omega)
  obtain ⟨c1, c2, c3, c4, c5, c6⟩ := c
  refine ⟨(z 6 (by omega)).trans c1, (z 7 (by omega)).trans c2, (z 44 (by omega)).trans c3, (z 46 (by omega)).trans c4, fun q => (z 34 (by omega)).trans (c5 q), fun h0 => ?_⟩
  have okt := ok h0
  have hJ := okt.2.1
  have hE := okt.2.2.1
  obtain ⟨d1, d2, d3, d4, d5⟩ := c6 h0
  have e76 : ∀ j, j < 9 → h'.1 76 j = h.1 76 j := fun j hj => ga 76 j (by decide) (Or.inr (Or.inr hj))
  have e77 : ∀ j, j < 9 → h'.1 77 j = h.1 77 j := fun j hj => ga 77 j (by decide) (Or.inr (Or.inr hj))
  have e79 : ∀ j, j < 14 → h'.1 79 j = h.1 79 j := fun j hj => ga 79 j (by decide) (Or.inr (Or.inr hj))
  have e80 : ∀ j, j < 14 → h'.1 80 j = h.1 80 j := fun j hj => ga 80 j (by decide) (Or.inr (Or.inr hj))
  have e81 : ∀ j, j < 14 → h'.1 81 j = h.1 81 j := fun j hj => ga 81 j (by decide) (Or.inr (Or.inr hj))
  have e82 : ∀ j, j < 14 → h'.1 82 j = h.1 82 j := fun j hj => ga 82 j (by decide) (Or.inr (Or.inr hj))
  have e84 : ∀ j, j < 14 → h'.1 84 j = h.1 84 j := fun j hj => ga 84 j (by decide) (Or.inr (Or.inr hj))
  have e83 : ∀ j, j < 84 → h'.1 83 j = h.1 83 j := fun j hj => ga 83 j (by decide) (Or.inr (Or.inr hj))
  refine ⟨?_, ?_, ?_, ?_, ?_⟩
  · obtain ⟨r1, r2, r3, r4, r5⟩ := d1
    refine ⟨(z 6 (by omega)).trans r1, (z 7 (by omega)).trans r2, (z 17 (by omega)).trans r3, fun j hj => by rw [e76 j (by omega), e77 j (by omega)]; exact r4 j hj, fun e he => ?_⟩
    have hl := (okt.2.2.2.1 e he).2.2.2.2.2.1
    rw [e79 e (by omega), e80 e (by omega), e81 e (by omega), e82 e (by omega), e84 e (by omega)]
    obtain ⟨x1, x2, x3, x4, x5, x6⟩ := r5 e he
    exact ⟨x1, x2, x3, x4, x5, fun k hk => by rw [e83 _ (by omega)]; exact x6 k hk⟩
  · obtain ⟨s1, s2, s3, s4, s5, s6, s7, s8, s9⟩ := d2
    refine ⟨?_, (z 28 (by omega)).trans s2, (z 39 (by omega)).trans s3, (z 41 (by omega)).trans s4, (z 40 (by omega)).trans s5, s6.ext (z 29 (by omega)) (z 32 (by omega)) (gh 85 (by omega)) (gh 86 (by omega)), s7.ext (z 34 (by omega)) (gh 88 (by omega)) (gh 89 (by omega)) (gh 90 (by omega)), fun e he => by rw [g2 87]; exact s8 e he, fun i hi => by rw [g2 91]; exact s9 i hi⟩
    obtain ⟨r1, r2, r3, r4, r5, r6, r7⟩ := s1
    refine ⟨(z 6 (by omega)).trans r1, (z 7 (by omega)).trans r2, (e76 0 (by omega)).trans r3, (z 17 (by omega)).trans r4, fun j h1 h2 => ?_, fun j hj => (e77 j (by omega)).trans (r6 j hj), fun e he => ?_⟩
    · unfold drE; rw [e76 j (by omega), z 44 (by omega), z 45 (by omega), z 46 (by omega)]; exact r5 j h1 h2
    · have hl := (okt.2.2.2.1 e he).2.2.2.2.2.1
      obtain ⟨x1, x2, x3, x4, x5, x6⟩ := r7 e he
      rw [e79 e (by omega), e80 e (by omega), e81 e (by omega), e82 e (by omega), e84 e (by omega)]
      exact ⟨x1, x2, x3, x4, x5, fun k hk => by rw [e83 _ (by omega)]; exact x6 k hk⟩
  · intro j hj k hk
    rw [ga 78 _ (by decide) (Or.inr (Or.inr (show 6 * (0 + j) + k < 54 by omega)))]; exact d3 j hj k hk
  · unfold ActM; rw [z 51 (by omega), gh 96 (by omega), gh 97 (by omega), gh 98 (by omega)]; exact d4
  · unfold MeaM; rw [gh 94 (by omega), gh 95 (by omega)]; exact d5
theorem bn_of {b : Int32} (h0 : 0 ≤ b.toInt) (h1 : b.toInt < 256) : b.toInt.toNat < 256 ∧ b = nI b.toInt.toNat := by
  refine ⟨by omega, ?_⟩
  rw [fa_eq, nI_toInt (by omega)]; omega
theorem CPN.nam {h h' : PH} {t : NT} {nm : NMS} (hJ : NT.J t ≤ 9) (c : CPN 15 3 h h') (n : NamC h 3 t nm) : NamC h' 15 t nm := fun j hj => by
  rw [(c.2.1 j (by omega)).1]; exact n j hj
set_option maxRecDepth 100000 in
set_option maxHeartbeats 4000000 in
theorem o_text {h : PH} (i : INV h) (x : Int32) : Same2 mX7_text 8 [.ref 0, .int x] mX8_text 12 [.ref 74, .int x] h := by
  have i0 := i
  obtain ⟨n0, bs, tr, fl, wp, t, nm, ac, ms, i1, i2, i3, i4, i5, i6⟩ := i
  have hb := i3.e
  obtain ⟨j1, j2, j3⟩ := i1
  obtain ⟨l1, l2, l3⟩ := i4
  have f5 : ∀ {h1 : PH}, kM h h1 → h1.1 74 5 = nI n0 := fun p => by rw [(p 74 (by omega)).1]; exact l1
  have okt : 0 < NT.J t → okT t := fun q => (i3.2.2.2 q).1.1
  by_cases hx : (0 : Int32) ≤ x ∧ x ≤ nI n0
  · obtain ⟨n, hn, rfl⟩ := ex_le (k := n0) (by omega) hx
    let B : Nat → Nat := fun i => (bs i).toInt.toNat
    have ok : OKB n B := ⟨by omega, fun i hi => (bn_of (l3 i (by omega)).2.1 (l3 i (by omega)).2.2).1⟩
    have eb : ∀ i, i < n → bs i = nI (B i) := fun i hi => (bn_of (l3 i (by omega)).2.1 (l3 i (by omega)).2.2).2
    have hbC : ∀ i, i < n → h.1 1 i = sB (B i) := fun i hi => by rw [j3 i (by omega), eb i hi]; rfl
    have hbM : ∀ {h1 : PH}, kM h h1 → ∀ i, i < n → h1.1 75 i = nI (B i) := fun p i hi => by rw [(p 75 (by omega)).1, (l3 i (by omega)).1]; exact eb i hi
    clear_value B
    have ct := k_rtext ok hbC
    by_cases hf : (spText B n).1 = 0
    · refine ⟨.int (nI (NT.J (spText B n).2.2.1)), fun h1 => CX h1 (spText B n).2.2.1 (spText B n).2.2.2 [] noM ∧ h1.1 0 1 = 0 ∧ h1.1 0 4 = 0 ∧ h1.1 0 2 = 0 ∧ h1.1 0 3 = -1 ∧ kM h h1, fun h1 h2 => MX h2 (spText B n).2.2.1 (spText B n).2.2.2 [] noM ∧ h2.1 74 5 = 0 ∧ h2.1 74 1 = 0 ∧ h2.1 74 2 = 0 ∧ ∀ y, y < 74 → h2.1 y = h1.1 y ∧ h2.2 y = h1.2 y, ?_, fun h1 q => ?_, fun h1 h2 q z => ?_⟩
      · refine Con.mk (by decide) ?_
        show RT _ _ 0 [some (.ref 0), some (.int (nI n))] [] _ _
        refine r_iload_1 dX7_text_0 ?_
        refine r_if_lt 12 dX7_text_1 (by decide) (fun c_1 => by exact absurd c_1 (nI_pos (by omega))) (fun c_1 => ?_)
        refine r_iload_1 dX7_text_4 ?_
        refine r_aload_0 dX7_text_5 ?_
        refine r_getI dX7_text_6 fl_X7_58 rfl ?_
        rw [j1]
        refine r_icmpN_le 18 dX7_text_9 (by decide) (by omega) (by omega) (fun c_9 => ?_) (fun c_9 => by omega)
        refine r_aload_0 dX7_text_18 ?_
        refine r_aload_0 dX7_text_19 ?_
        refine r_getR (a := 2) dX7_text_20 fl_X7_22 rfl rfl ?_
        refine r_aload_0 dX7_text_23 ?_
        refine r_getR (a := 1) dX7_text_24 fl_X7_11 rfl rfl ?_
        refine r_iload_1 dX7_text_27 ?_
        refine r_cVQ2 mX3_readText dX7_text_28 ml_X7_69 mo_X3_readText rfl ct (by decide) (fun h2 p2 => ?_)
        obtain ⟨nc2, na2, gr2, hJ2⟩ := p2.1 hf
        have tx2 : TxOK (spText B n).2.2.1 := gr2.1.tx hJ2
        have f2 := p2.2.2
        rw [hf]
        refine r_putI dX7_text_31 fl_X7_73 rfl rfl rfl ?_
        refine r_aload_0 dX7_text_34 ?_
        refine r_iconst (v := 0) dX7_text_35 (by decide) ?_
        refine r_putI dX7_text_36 fl_X7_58 rfl rfl rfl ?_
        refine r_aload_0 dX7_text_39 ?_
        refine r_getI dX7_text_40 fl_X7_73 rfl ?_
        rw [show (pI (pI h2 0 2 0) 0 1 0).1 0 2 = 0 from (pI_ne 0 2 (Or.inr (by decide))).trans pI_eq]
        refine r_if_eq 65 dX7_text_43 (by decide) (fun c_43 => ?_) (fun c_43 => by exact absurd rfl c_43)
        refine r_aload_0 dX7_text_65 ?_
        refine r_cW0 mX7_allow dX7_text_66 ml_X7_79 mo_X7_allow rfl (k_allow _) (by decide) ?_
        refine r_aload_0 dX7_text_69 ?_
        refine r_getR (a := 15) dX7_text_70 fl_X7_37 rfl rfl ?_
        refine r_aload_0 dX7_text_73 ?_
        refine r_getR (a := 2) dX7_text_74 fl_X7_22 rfl rfl ?_
        refine r_getR (a := 3) dX7_text_77 fl_X7_82 rfl rfl ?_
        refine r_cWQ1 mX2_copyFrom dX7_text_80 ml_X7_83 mo_X2_copyFrom rfl (k_copy_15_3 _) (by decide) (fun h4 p4 => ?_)
        have nc4 : NetC h4 15 (spText B n).2.2.1 := p4.net tx2.1 (nc2.fr (S := fun y => y = 0) ((((Fr.rf (S := fun y => y = 0)).pI rfl).pI rfl).pI rfl |>.pI rfl) (fun j hj q => by omega))
        have na4 : NamC h4 15 (spText B n).2.2.1 (spText B n).2.2.2 := p4.nam tx2.1.2.1 na2
        have f4 := p4.2.2.2.2
        refine r_aload_0 dX7_text_83 ?_
        refine r_getR (a := 68) dX7_text_84 fl_X7_47 rfl rfl ?_
        refine r_iconst (v := 0) dX7_text_87 (by decide) ?_
        refine r_putI dX7_text_88 fl_X7_89 rfl rfl rfl ?_
        refine r_aload_0 dX7_text_91 ?_
        refine r_getR (a := 72) dX7_text_92 fl_X7_54 rfl rfl ?_
        refine r_cW0 mX1_clear dX7_text_95 ml_X7_92 mo_X1_clear rfl (k_clear _) (by decide) ?_
        refine r_aload_0 dX7_text_98 ?_
        refine r_cWQ0 mX7_settle dX7_text_99 ml_X7_95 mo_X7_settle rfl (k_settle tx2.1 (h := pI (pI h4 68 0 0) 72 0 0) (nc4.fr (S := fun y => y = 68 ∨ y = 72) ((Fr.rf.pI (Or.inl rfl)).pI (Or.inr rfl)) (fun j hj q => by omega))) (by decide) (fun h5 p5 => ?_)
        obtain ⟨s5, e5, e6, f5'⟩ := p5
        have e15 : h5.1 15 0 = nI (NT.J (spText B n).2.2.1) := s5.1.1
        refine r_aload_0 dX7_text_102 ?_
        refine r_getR (a := 15) dX7_text_103 fl_X7_37 rfl rfl ?_
        refine r_getI dX7_text_106 fl_X7_98 rfl ?_
        rw [e15]
        refine r_iret dX7_text_109 rfl ?_
        have n14 : ∀ y, (y < 14 ∨ (15 ≤ y ∧ y < 25) ∨ 41 ≤ y) → y ≠ 72 → ¬ (rgW 14 y ∨ y = 72) := fun y h1 h2 q => by unfold rgW at q; omega
        have a0 : ∀ y, y ≠ 72 → y ≠ 68 → y < 14 ∨ 41 ≤ y → h5.1 y = (clH (pI (pI h2 0 2 0) 0 1 0) 0).1 y ∧ h5.2 y = h2.2 y := fun y q1 q2 q3 => by
          have u1 := f5' y (n14 y (by omega) q1)
          have u2 := f4 y (fun q => by unfold cpR at q; omega)
          refine ⟨?_, ?_⟩
          · rw [u1.1, show (pI (pI h4 68 0 0) 72 0 0).1 y = h4.1 y from (funext fun j => (pI_ne y j (Or.inl q1)).trans (pI_ne y j (Or.inl q2)))]; exact u2.1
          · rw [u1.2]; exact u2.2
        refine ⟨rfl, ⟨s5.1.1, s5.1.2.1, fun q => by omega, fun _ => ⟨tx2, gr2.2.1, fun j v q => (by cases q), s5, fun j hj => ?_, ⟨?_, Nat.zero_le _, fun k hk => absurd hk (Nat.not_lt_zero _)⟩, fun j hj => ?_, fun j v q => (by cases q), Or.inl e5⟩⟩, ?_, ?_, ?_, ?_, fun y hy => ?_⟩
        · rw [(f5' 16 (n14 16 (by omega) (by omega))).2]; exact na4 j hj
        · rw [(f5' 68 (n14 68 (by omega) (by omega))).1, pI_ne 68 0 (Or.inl (by decide))]; exact pI_eq
        · rw [e6, pI_eq, b_0]; rfl
        · rw [(a0 0 (by decide) (by decide) (by omega)).1]; exact ((pI_ne 0 1 (Or.inr (by decide))).trans (pI_ne 0 1 (Or.inr (by decide)))).trans pI_eq
        · rw [(a0 0 (by decide) (by decide) (by omega)).1]; exact (pI_ne 0 4 (Or.inr (by decide))).trans pI_eq
        · rw [(a0 0 (by decide) (by decide) (by omega)).1]; exact (((pI_ne 0 2 (Or.inr (by decide))).trans (pI_ne 0 2 (Or.inr (by decide)))).trans (pI_ne 0 2 (Or.inr (by decide)))).trans pI_eq
        · rw [(a0 0 (by decide) (by decide) (by omega)).1]; exact pI_eq
        · have u := a0 y (by omega) (by omega) (by omega)
          have v := f2 y (fun q => by omega)
          exact ⟨(u.1.trans (clH_1 (by omega))).trans ((funext fun j => (pI_ne y j (Or.inl (by omega))).trans (pI_ne y j (Or.inl (by omega)))).trans v.1), u.2.trans v.2⟩
      · obtain ⟨cx, q1, q2, q3, q4, kk⟩ := q
        have mx := (i6.k kk).rf 0
        have g5 : (h1).1 74 5 = nI n0 := f5 kk
        have z5 : (pI (pI (rfH h1 0) 74 5 0) 74 2 0).1 74 5 = 0 := (pI_ne 74 5 (Or.inr (by decide))).trans pI_eq
        have z2 : (pI (pI (rfH h1 0) 74 5 0) 74 2 0).1 74 2 = 0 := pI_eq
        have z1 : (pI (pI (rfH h1 0) 74 5 0) 74 2 0).1 74 1 = 0 := ((pI_ne 74 1 (Or.inr (by decide))).trans (pI_ne 74 1 (Or.inr (by decide)))).trans pI_eq
        have z75 : ∀ i, i < n → (pI (pI (rfH h1 0) 74 5 0) 74 2 0).1 75 i = nI (B i) := fun i hi => by rw [pI_ne 75 i (Or.inl (by decide)), pI_ne 75 i (Or.inl (by decide)), rfH_1 (by decide)]; exact hbM kk i hi
        have fz0 : FZ (rfH h1 0) (pI (pI (rfH h1 0) 74 5 0) 74 2 0) := fz_pF (fz_pF FZ.rf (by omega)) (by omega)
        have lo0 : ∀ y, y ≠ 74 → (pI (pI (rfH h1 0) 74 5 0) 74 2 0).1 y = h1.1 y := fun y hy => (funext fun j => (pI_ne y j (Or.inl hy)).trans (pI_ne y j (Or.inl hy))).trans (rfH_1 hy)
        have g44 : (rfH h1 0).1 74 44 = -1 := mx.2.2.1
        have g46 : (rfH h1 0).1 74 46 = 100 := mx.2.2.2.1
        refine Con.mk (by decide) ?_
        show RT _ _ 0 [some (.ref 74), some (.int (nI n))] [] _ _
        refine r_aload_0 dX8_text_0 ?_
        refine r_iconst (v := 1) dX8_text_1 (by decide) ?_
        refine r_iload_1 dX8_text_2 ?_
        refine r_i2l dX8_text_3 ?_
        refine r_lconst (v := 0) dX8_text_4 (by decide) ?_
        refine r_aload_0 dX8_text_5 ?_
        refine r_getI dX8_text_6 fl_X8_104 rfl ?_
        rw [g5]
        refine r_i2l dX8_text_9 ?_
        refine r_cS3 mX8_in dX8_text_10 ml_X8_131 mo_X8_in (q_in _ _ _ _) (by decide) ?_
        rw [b2i_c (show ((0 : Int64) ≤ (nI n).toInt64 ∧ (nI n).toInt64 ≤ (nI n0).toInt64) ↔ _ from in_32 (lo := 0)), b2i_t hx]
        refine r_cS2 mX8_unless_ dX8_text_13 ml_X8_241 mo_X8_unless_ (q_unless2 _ _ _) (by decide) ?_
        rw [show (if (1 : Int32) = 0 then (1 : Int32) else if (1 : Int32) = 0 then 2 else 0) = 0 by decide]
        refine r_cV1 mX8_isRefused dX8_text_16 ml_X8_245 mo_X8_isRefused rfl (q_isRefused _ _) (by decide) ?_
        rw [b2i_f (by decide)]
        refine r_if_eq 24 dX8_text_19 (by decide) (fun c_19 => ?_) (fun c_19 => by exact absurd rfl c_19)
        refine r_aload_0 dX8_text_24 ?_
        refine r_iconst (v := 0) dX8_text_25 (by decide) ?_
        refine r_putI dX8_text_26 fl_X8_104 rfl rfl rfl ?_
        refine r_aload_0 dX8_text_29 ?_
        refine r_iconst (v := 0) dX8_text_30 (by decide) ?_
        refine r_putI dX8_text_31 fl_X8_248 rfl rfl rfl ?_
        generalize (pI (pI (rfH h1 0) 74 5 0) 74 2 0) = H at z5 z2 z1 z75 fz0 lo0
        refine r_aload_0 dX8_text_34 ?_
        refine r_iload_1 dX8_text_35 ?_
        refine r_cVQ1 mX8_readAll dX8_text_36 ml_X8_251 mo_X8_readAll rfl (q_readAll ok z75) (by decide) (fun h3 p3 => ?_)
        obtain ⟨mo3, gr3⟩ := p3
        obtain ⟨⟨ti, no, -⟩, hJ2⟩ := gr3 hf
        have tx : TxOK (spText B n).2.2.1 := ti.tx hJ2
        have c3 := mo3.1 hf
        have fz3 : FZ (rfH h1 0) h3 := fz0.tr ((fz_pF (k := 18) (x := nI n) FZ.rf (by omega)).tr mo3.2.2.z)
        have l3' : ∀ k, k ≤ 5 → h3.1 74 k = H.1 74 k := fun k hk => (mo3.2.2.1 k (by omega)).trans (pI_ne 74 k (Or.inr (by omega)))
        rw [b2i_t hf]
        refine r_if_ne 64 dX8_text_39 (by decide) (fun c_39 => ?_) (fun c_39 => by exact absurd c_39 (by decide))
        refine r_aload_0 dX8_text_64 ?_
        refine r_cWQ0 mX8_stands dX8_text_65 ml_X8_257 mo_X8_stands rfl (q_stands c3 ti no) (by decide) (fun h4 p4 => ?_)
        obtain ⟨raw4, nam4, z94, e51, f4⟩ := p4
        have nc4 : NetM h4 (spText B n).2.2.1 := raw4.net tx ((f4.1 44 (by unfold stF; omega)).trans ((fz3.1 44 (by omega)).trans g44)) ((f4.1 46 (by unfold stF; omega)).trans ((fz3.1 46 (by omega)).trans g46))
        refine r_aload_0 dX8_text_68 ?_
        refine r_cWQ0 mX8_solves dX8_text_69 ml_X8_260 mo_X8_solves rfl (q_solves tx.1 nc4) (by decide) (fun h5 p5 => ?_)
        obtain ⟨s5, f5'⟩ := p5
        have e6 : h5.1 74 6 = nI (NT.J (spText B n).2.2.1) := s5.1.1
        refine r_aload_0 dX8_text_72 ?_
        refine r_getI dX8_text_73 fl_X8_229 rfl ?_
        rw [e6]
        refine r_iret dX8_text_76 rfl ?_
        have zf : ∀ k, k ≤ 5 → h5.1 74 k = H.1 74 k := fun k hk => (f5'.1 k (by unfold slF; omega)).trans ((f4.1 k (by unfold stF; omega)).trans (l3' k hk))
        refine ⟨rfl, ⟨s5.1.1, s5.1.2.1, ?_, ?_, fun q => by omega, fun _ => ⟨raw4.fm f5'.toG, s5, ?_, ⟨?_, fun k hk => absurd hk (Nat.not_lt_zero _)⟩, fun j hj => ⟨?_, fun v q => (by cases q)⟩⟩⟩, (zf 5 (by omega)).trans z5, (zf 1 (by omega)).trans z1, (zf 2 (by omega)).trans z2, fun y hy => ?_⟩
        · exact (f5'.1 44 (by unfold slF; omega)).trans ((f4.1 44 (by unfold stF; omega)).trans ((fz3.1 44 (by omega)).trans g44))
        · exact (f5'.1 46 (by unfold slF; omega)).trans ((f4.1 46 (by unfold stF; omega)).trans ((fz3.1 46 (by omega)).trans g46))
        · unfold NamM; rw [(f5'.2.1 78 (by decide) (by unfold slS; omega)).1]; exact nam4
        · exact (f5'.1 51 (by unfold slF; omega)).trans e51
        · rw [(f5'.2.1 94 (by decide) (by unfold slS; omega)).1, z94 j hj]; rfl
        · have u1 := f5'.2.1 y (by omega) (by unfold slS; omega)
          have u2 := f4.2.1 y (by omega) (by unfold stS; omega)
          have u3 : h3.1 y = (rfH h1 0).1 y := funext fun j => fz3.2.2 y j (by omega) (by omega)
          exact ⟨u1.1.trans (u2.1.trans (u3.trans (rfH_1 (by omega)))), u1.2.trans (u2.2.trans (fz3.2.1 y))⟩
      · obtain ⟨cx, q1, q2, q3, q4, kk⟩ := q
        obtain ⟨mx, y5, y1, y2, yy⟩ := z
        have g0 := (yy 0 (by omega)).1
        exact ⟨0, bs, 0, 0, -1, (spText B n).2.2.1, (spText B n).2.2.2, [], noM, ⟨by rw [g0]; exact q1, by omega, fun i hi => by omega⟩, ⟨by rw [g0]; exact q2, by rw [g0]; exact q3, by rw [g0]; exact q4⟩, cx.k (fun y _ hy => yy y hy), ⟨y5, by omega, fun i hi => by omega⟩, ⟨y1, y2, fun q => absurd q (by decide), fun _ => rfl⟩, mx⟩
    · refine ⟨.int (-1), fun h1 => h1.1 0 1 = 0 ∧ h1.1 0 4 = 4 ∧ h1.1 0 2 = (spText B n).1 ∧ h1.1 0 3 = (nI (spText B n).2.1.2.1) ∧ Fr (fun y => y = 0 ∨ (2 ≤ y ∧ y < 13)) h h1, fun h1 h2 => h2.1 74 5 = 0 ∧ h2.1 74 1 = 4 ∧ h2.1 74 2 = (spText B n).1 ∧ h2.1 74 3 = (nI (spText B n).2.1.2.1) ∧ FZ (rfH h1 0) h2, ?_, fun h1 q => ?_, fun h1 h2 q z => ?_⟩
      · refine Con.mk (by decide) ?_
        show RT _ _ 0 [some (.ref 0), some (.int (nI n))] [] _ _
        refine r_iload_1 dX7_text_0 ?_
        refine r_if_lt 12 dX7_text_1 (by decide) (fun c_1 => by exact absurd c_1 (nI_pos (by omega))) (fun c_1 => ?_)
        refine r_iload_1 dX7_text_4 ?_
        refine r_aload_0 dX7_text_5 ?_
        refine r_getI dX7_text_6 fl_X7_58 rfl ?_
        rw [j1]
        refine r_icmpN_le 18 dX7_text_9 (by decide) (by omega) (by omega) (fun c_9 => ?_) (fun c_9 => by omega)
        refine r_aload_0 dX7_text_18 ?_
        refine r_aload_0 dX7_text_19 ?_
        refine r_getR (a := 2) dX7_text_20 fl_X7_22 rfl rfl ?_
        refine r_aload_0 dX7_text_23 ?_
        refine r_getR (a := 1) dX7_text_24 fl_X7_11 rfl rfl ?_
        refine r_iload_1 dX7_text_27 ?_
        refine r_cVQ2 mX3_readText dX7_text_28 ml_X7_69 mo_X3_readText rfl ct (by decide) (fun h2 p2 => ?_)
        have s2 := p2.2.1 hf
        have f2 := p2.2.2
        refine r_putI dX7_text_31 fl_X7_73 rfl rfl rfl ?_
        refine r_aload_0 dX7_text_34 ?_
        refine r_iconst (v := 0) dX7_text_35 (by decide) ?_
        refine r_putI dX7_text_36 fl_X7_58 rfl rfl rfl ?_
        refine r_aload_0 dX7_text_39 ?_
        refine r_getI dX7_text_40 fl_X7_73 rfl ?_
        rw [show (pI (pI h2 0 2 (spText B n).1) 0 1 0).1 0 2 = (spText B n).1 from (pI_ne 0 2 (Or.inr (by decide))).trans pI_eq]
        refine r_if_eq 65 dX7_text_43 (by decide) (fun c_43 => by exact absurd c_43 hf) (fun c_43 => ?_)
        refine r_aload_0 dX7_text_46 ?_
        refine r_iconst (v := 4) dX7_text_47 (by decide) ?_
        refine r_cV1 mX7_refuse dX7_text_48 ml_X7_65 mo_X7_refuse rfl (k_refuse _ 4) (by decide) ?_
        refine r_popi dX7_text_51 ?_
        refine r_aload_0 dX7_text_52 ?_
        refine r_aload_0 dX7_text_53 ?_
        refine r_getR (a := 2) dX7_text_54 fl_X7_22 rfl rfl ?_
        refine r_getI dX7_text_57 fl_X7_76 rfl ?_
        rw [show (clH (pI (pI h2 0 2 (spText B n).1) 0 1 0) 4).1 2 5 = (nI (spText B n).2.1.2.1) by rw [clH_1 (by decide), pI_ne 2 5 (Or.inl (by decide)), pI_ne 2 5 (Or.inl (by decide))]; exact s2]
        refine r_putI dX7_text_60 fl_X7_15 rfl rfl rfl ?_
        refine r_iconst (v := (-1)) dX7_text_63 (by decide) ?_
        refine r_iret dX7_text_64 rfl ?_
        refine ⟨rfl, ?_, ?_, ?_, pI_eq, ?_⟩
        · exact ((pI_ne 0 1 (Or.inr (by decide))).trans ((pI_ne 0 1 (Or.inr (by decide))).trans (pI_ne 0 1 (Or.inr (by decide))))).trans pI_eq
        · exact ((pI_ne 0 4 (Or.inr (by decide))).trans (pI_ne 0 4 (Or.inr (by decide)))).trans pI_eq
        · exact (((pI_ne 0 2 (Or.inr (by decide))).trans ((pI_ne 0 2 (Or.inr (by decide))).trans (pI_ne 0 2 (Or.inr (by decide))))).trans (pI_ne 0 2 (Or.inr (by decide)))).trans pI_eq
        · have f2' : Fr (fun y => y = 0 ∨ (2 ≤ y ∧ y < 13)) h h2 := Fr.wk f2 (fun y q => Or.inr q)
          exact ((((f2'.pI (Or.inl rfl)).pI (Or.inl rfl)).pI (Or.inl rfl)).pI (Or.inl rfl)).pI (Or.inl rfl)
      · obtain ⟨q1, q2, q3, q4, fr⟩ := q
        have kk : kM h h1 := fun y hy => fr y (fun q => by omega)
        have mx := (i6.k kk).rf 0
        have g5 : (h1).1 74 5 = nI n0 := f5 kk
        have z5 : (pI (pI (rfH h1 0) 74 5 0) 74 2 0).1 74 5 = 0 := (pI_ne 74 5 (Or.inr (by decide))).trans pI_eq
        have z2 : (pI (pI (rfH h1 0) 74 5 0) 74 2 0).1 74 2 = 0 := pI_eq
        have z1 : (pI (pI (rfH h1 0) 74 5 0) 74 2 0).1 74 1 = 0 := ((pI_ne 74 1 (Or.inr (by decide))).trans (pI_ne 74 1 (Or.inr (by decide)))).trans pI_eq
        have z75 : ∀ i, i < n → (pI (pI (rfH h1 0) 74 5 0) 74 2 0).1 75 i = nI (B i) := fun i hi => by rw [pI_ne 75 i (Or.inl (by decide)), pI_ne 75 i (Or.inl (by decide)), rfH_1 (by decide)]; exact hbM kk i hi
        have fz0 : FZ (rfH h1 0) (pI (pI (rfH h1 0) 74 5 0) 74 2 0) := fz_pF (fz_pF FZ.rf (by omega)) (by omega)
        have lo0 : ∀ y, y ≠ 74 → (pI (pI (rfH h1 0) 74 5 0) 74 2 0).1 y = h1.1 y := fun y hy => (funext fun j => (pI_ne y j (Or.inl hy)).trans (pI_ne y j (Or.inl hy))).trans (rfH_1 hy)
        refine Con.mk (by decide) ?_
        show RT _ _ 0 [some (.ref 74), some (.int (nI n))] [] _ _
        refine r_aload_0 dX8_text_0 ?_
        refine r_iconst (v := 1) dX8_text_1 (by decide) ?_
        refine r_iload_1 dX8_text_2 ?_
        refine r_i2l dX8_text_3 ?_
        refine r_lconst (v := 0) dX8_text_4 (by decide) ?_
        refine r_aload_0 dX8_text_5 ?_
        refine r_getI dX8_text_6 fl_X8_104 rfl ?_
        rw [g5]
        refine r_i2l dX8_text_9 ?_
        refine r_cS3 mX8_in dX8_text_10 ml_X8_131 mo_X8_in (q_in _ _ _ _) (by decide) ?_
        rw [b2i_c (show ((0 : Int64) ≤ (nI n).toInt64 ∧ (nI n).toInt64 ≤ (nI n0).toInt64) ↔ _ from in_32 (lo := 0)), b2i_t hx]
        refine r_cS2 mX8_unless_ dX8_text_13 ml_X8_241 mo_X8_unless_ (q_unless2 _ _ _) (by decide) ?_
        rw [show (if (1 : Int32) = 0 then (1 : Int32) else if (1 : Int32) = 0 then 2 else 0) = 0 by decide]
        refine r_cV1 mX8_isRefused dX8_text_16 ml_X8_245 mo_X8_isRefused rfl (q_isRefused _ _) (by decide) ?_
        rw [b2i_f (by decide)]
        refine r_if_eq 24 dX8_text_19 (by decide) (fun c_19 => ?_) (fun c_19 => by exact absurd rfl c_19)
        refine r_aload_0 dX8_text_24 ?_
        refine r_iconst (v := 0) dX8_text_25 (by decide) ?_
        refine r_putI dX8_text_26 fl_X8_104 rfl rfl rfl ?_
        refine r_aload_0 dX8_text_29 ?_
        refine r_iconst (v := 0) dX8_text_30 (by decide) ?_
        refine r_putI dX8_text_31 fl_X8_248 rfl rfl rfl ?_
        generalize (pI (pI (rfH h1 0) 74 5 0) 74 2 0) = H at z5 z2 z1 z75 fz0 lo0
        refine r_aload_0 dX8_text_34 ?_
        refine r_iload_1 dX8_text_35 ?_
        refine r_cVQ1 mX8_readAll dX8_text_36 ml_X8_251 mo_X8_readAll rfl (q_readAll ok z75) (by decide) (fun h3 p3 => ?_)
        obtain ⟨mo3, gr3⟩ := p3
        have fz3 : FZ (rfH h1 0) h3 := fz0.tr ((fz_pF (k := 18) (x := nI n) FZ.rf (by omega)).tr mo3.2.2.z)
        have l3' : ∀ k, k ≤ 5 → h3.1 74 k = H.1 74 k := fun k hk => (mo3.2.2.1 k (by omega)).trans (pI_ne 74 k (Or.inr (by omega)))
        rw [b2i_f hf]
        refine r_if_ne 64 dX8_text_39 (by decide) (fun c_39 => by exact absurd rfl c_39) (fun c_39 => ?_)
        refine r_aload_0 dX8_text_42 ?_
        refine r_aload_0 dX8_text_43 ?_
        refine r_getI dX8_text_44 fl_X8_152 rfl ?_
        rw [(mo3.2.1 hf).1]
        refine r_putI dX8_text_47 fl_X8_248 rfl rfl rfl ?_
        refine r_aload_0 dX8_text_50 ?_
        refine r_aload_0 dX8_text_51 ?_
        refine r_getI dX8_text_52 fl_X8_155 rfl ?_
        rw [show (pI h3 74 2 (spText B n).1).1 74 24 = (nI (spText B n).2.1.2.1) from (pI_ne 74 24 (Or.inr (by decide))).trans (mo3.2.1 hf).2]
        refine r_putI dX8_text_55 fl_X8_11 rfl rfl rfl ?_
        refine r_aload_0 dX8_text_58 ?_
        refine r_iconst (v := 4) dX8_text_59 (by decide) ?_
        refine r_cV1 mX8_no dX8_text_60 ml_X8_254 mo_X8_no rfl (q_no _ 4) (by decide) ?_
        refine r_iret dX8_text_63 rfl ?_
        refine ⟨rfl, ?_, pI_eq, ?_, ?_, fz_pF (fz_pF (fz_pF fz3 (by omega)) (by omega)) (by omega)⟩
        · exact (((pI_ne 74 5 (Or.inr (by decide))).trans (pI_ne 74 5 (Or.inr (by decide)))).trans (pI_ne 74 5 (Or.inr (by decide)))).trans ((l3' 5 (by omega)).trans z5)
        · exact ((pI_ne 74 2 (Or.inr (by decide))).trans (pI_ne 74 2 (Or.inr (by decide)))).trans pI_eq
        · exact (pI_ne 74 3 (Or.inr (by decide))).trans pI_eq
      · obtain ⟨q1, q2, q3, q4, fr⟩ := q
        have kk : kM h h1 := fun y hy => fr y (fun q => by omega)
        obtain ⟨y5, y1, y2, y3, fz⟩ := z
        have lo : ∀ y, y < 74 → h2.1 y = h1.1 y ∧ h2.2 y = h1.2 y := fun y hy => ⟨(funext fun j => fz.2.2 y j (by omega) (by omega)).trans (rfH_1 (by omega)), fz.2.1 y⟩
        have g0 := (lo 0 (by omega)).1
        have mx := ((i6.k kk).rf 0).fz okt fz
        have cx := (i3.k (h' := h1) (fun y a b => fr y (fun q => by omega))).k (h' := h2) (fun y _ b => lo y b)
        exact ⟨0, bs, 4, (spText B n).1, (nI (spText B n).2.1.2.1), t, nm, ac, ms, ⟨by rw [g0]; exact q1, by omega, fun i hi => by omega⟩, ⟨by rw [g0]; exact q2, by rw [g0]; exact q3, by rw [g0]; exact q4⟩, cx, ⟨y5, by omega, fun i hi => by omega⟩, ⟨y1, y2, fun _ => y3, fun q => absurd rfl q⟩, mx⟩
  · refine Same.to2 i0 ⟨.int (-1), 2, by decide, ?_, ?_⟩
    · refine Con.mk (by decide) ?_
      show RT _ _ 0 [some (.ref 0), some (.int x)] [] _ _
      refine r_iload_1 dX7_text_0 ?_
      refine r_if_lt 12 dX7_text_1 (by decide) (fun c_1 => ?_) (fun c_1 => ?_)
      · refine r_aload_0 dX7_text_12 ?_
        refine r_iconst (v := 2) dX7_text_13 (by decide) ?_
        refine r_cV1 mX7_refuse dX7_text_14 ml_X7_65 mo_X7_refuse rfl (k_refuse h 2) (by decide) ?_
        refine r_iret dX7_text_17 rfl ?_
        exact ⟨rfl, rfl⟩
      · refine r_iload_1 dX7_text_4 ?_
        refine r_aload_0 dX7_text_5 ?_
        refine r_getI dX7_text_6 fl_X7_58 rfl ?_
        rw [j1]
        refine r_icmp_le 18 dX7_text_9 (by decide) (fun c_9 => ?_) (fun c_9 => ?_)
        · exact absurd ⟨ge_of_nlt c_1, c_9⟩ hx
        · refine r_aload_0 dX7_text_12 ?_
          refine r_iconst (v := 2) dX7_text_13 (by decide) ?_
          refine r_cV1 mX7_refuse dX7_text_14 ml_X7_65 mo_X7_refuse rfl (k_refuse h 2) (by decide) ?_
          refine r_iret dX7_text_17 rfl ?_
          exact ⟨rfl, rfl⟩
    · refine Con.mk (by decide) ?_
      show RT _ _ 0 [some (.ref 74), some (.int x)] [] _ _
      refine r_aload_0 dX8_text_0 ?_
      refine r_iconst (v := 1) dX8_text_1 (by decide) ?_
      refine r_iload_1 dX8_text_2 ?_
      refine r_i2l dX8_text_3 ?_
      refine r_lconst (v := 0) dX8_text_4 (by decide) ?_
      refine r_aload_0 dX8_text_5 ?_
      refine r_getI dX8_text_6 fl_X8_104 rfl ?_
      rw [f5 clH_kM]
      refine r_i2l dX8_text_9 ?_
      refine r_cS3 mX8_in dX8_text_10 ml_X8_131 mo_X8_in (q_in _ _ _ _) (by decide) ?_
      rw [b2i_c (show ((0 : Int64) ≤ x.toInt64 ∧ x.toInt64 ≤ (nI n0).toInt64) ↔ _ from in_32 (lo := 0)), b2i_f hx]
      refine r_cS2 mX8_unless_ dX8_text_13 ml_X8_241 mo_X8_unless_ (q_unless2 _ _ _) (by decide) ?_
      rw [show (if (1 : Int32) = 0 then (1 : Int32) else if (0 : Int32) = 0 then 2 else 0) = 2 by decide]
      refine r_cV1 mX8_isRefused dX8_text_16 ml_X8_245 mo_X8_isRefused rfl (q_isRefused _ _) (by decide) ?_
      rw [b2i_t (by decide)]
      refine r_if_eq 24 dX8_text_19 (by decide) (fun c_19 => by exact absurd c_19 (by decide)) (fun c_19 => ?_)
      refine r_iconst (v := (-1)) dX8_text_22 (by decide) ?_
      refine r_iret dX8_text_23 rfl ?_
      exact ⟨rfl, rfl⟩

