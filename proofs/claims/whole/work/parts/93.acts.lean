/-! ===== both: acts, what they come to ===== -/
theorem CX.act {h h' : PH} {t t' : NT} {nm : NMS} {ac ac' : List NT} {ms : MES} (c : CX h t nm ac ms) (hJ : 0 < NT.J t) (eJ : NT.J t' = NT.J t) (tx : TxOK t') (sc : SolC h' 14 t' (solveS (snOf t'))) (aa : ActC h' t' ac') (e2 : h'.1 72 2 = 0) (e0 : h'.1 72 0 = h.1 72 0) (e73 : h'.1 73 = h.1 73) (e16 : h'.2 16 = h.2 16) : CX h' t' nm ac' ms := by
  obtain ⟨c1, c2, c3, c4⟩ := c
  obtain ⟨d1, d2, d3, d4, d5, d6, d7⟩ := c4 hJ
  refine ⟨sc.1.1, sc.1.2.1, fun q => by omega, fun _ => ⟨tx, fun j hj => d2 j (by omega), fun j v q => ?_, sc, fun j hj => ?_, aa, fun j hj => by rw [e0]; exact d7.1 j hj, fun j v q => by rw [e73]; exact d7.2.1 j v q, Or.inl e2⟩⟩
  · have := d3 j v q; exact ⟨this.1, by omega, this.2.2⟩
  · show h'.2 16 j = _
    rw [e16]; exact d5 j (by omega)
theorem MX.act {h h' : PH} {t t' : NT} {nm : NMS} {ac ac' : List NT} {ms : MES} (c : MX h t nm ac ms) (hJ : 0 < NT.J t) (eJ : NT.J t' = NT.J t) (r : RawM h' t') (s : SolM h' t' (solveS (snOf t'))) (aa : ActM h' t' ac') (e44 : h'.1 74 44 = -1) (e46 : h'.1 74 46 = 100) (e78 : h'.1 78 = h.1 78) (e94 : h'.1 94 = h.1 94) (e95 : h'.1 95 = h.1 95) : MX h' t' nm ac' ms := by
  obtain ⟨c1, c2, c3, c4, c5, c6⟩ := c
  obtain ⟨d1, d2, d3, d4, d5⟩ := c6 hJ
  refine ⟨r.1, r.2.1, e44, e46, fun q => by omega, fun _ => ⟨r, s, fun j hj k hk => ?_, aa, fun j hj => ?_⟩⟩
  · rw [e78]; exact d3 j (by omega) k hk
  · rw [e94, e95]; exact d5 j hj
def acS : Nat → Prop := fun y => (85 ≤ y ∧ y < 94) ∨ (96 ≤ y ∧ y ≤ 98) ∨ y = 76 ∨ y = 82
def acF : Nat → Prop := fun k => slF k ∨ k = 51 ∨ k = 17
theorem fm_ac1 {h h' : PH} (f : FM slS slF h h') : FM acS acF h h' := f.wk (fun y q => Or.inl q) (fun k q => Or.inl q)
theorem fm_ac2 {h h' : PH} (f : FM rmS rmF h h') : FM acS acF h h' := f.wk (fun y q => Or.inr (Or.inl q)) (fun k q => Or.inr (Or.inl q))
theorem inv_act {h h1 h2 : PH} {n : Nat} {bs : Nat → Int32} {tr fl wp : Int32} {t t' : NT} {nm : NMS} {ac ac' : List NT} {ms : MES} (i1 : CT h n bs) (i2 : CE h tr fl wp) (i4 : MT h n bs) (i5 : ME h tr fl wp) (i6 : MX h t nm ac ms) (hJ : 0 < NT.J t) (eJ : NT.J t' = NT.J t) (p : CX h1 t' nm ac' ms ∧ h1.1 0 = (clH h 0).1 0 ∧ h1.1 1 = h.1 1 ∧ kM h h1) (z : RawM h2 t' ∧ SolM h2 t' (solveS (snOf t')) ∧ ActM h2 t' ac' ∧ FM acS acF (rfH h1 0) h2) : INV h2 := by
  obtain ⟨cx, a0, a1, kk⟩ := p
  obtain ⟨r, s, aa, f⟩ := z
  have zz : ∀ k, ¬ acF k → h2.1 74 k = (rfH h1 0).1 74 k := f.1
  have p74 : h1.1 74 = h.1 74 := (kk 74 (by omega)).1
  have m0 := (i6.k kk).rf 0
  have nF : ∀ k, k ≠ 28 → k ≠ 29 → k ≠ 32 → k ≠ 34 → k ≠ 39 → k ≠ 40 → k ≠ 41 → k ≠ 51 → k ≠ 17 → ¬ acF k := fun k a1 a2 a3 a4 a5 a6 a7 a8 a9 q => by unfold acF slF at q; omega
  have nS : ∀ y, (y < 76 ∨ y = 78 ∨ y = 94 ∨ y = 95) → ¬ acS y := fun y hy q => by unfold acS at q; omega
  have g : ∀ y, y ≠ 74 → (y < 76 ∨ y = 78 ∨ y = 94 ∨ y = 95) → h2.1 y = h1.1 y := fun y h0 hy => (f.2.1 y h0 (nS y hy)).1.trans (rfH_1 h0)
  have gm : ∀ y, y ≠ 74 → (y < 76 ∨ y = 78 ∨ y = 94 ∨ y = 95) → h2.1 y = (rfH h1 0).1 y := fun y h0 hy => (f.2.1 y h0 (nS y hy)).1
  refine inv_mk i1 i2 i4 i5 (x := 0) (by decide) a0 a1 cx (fun y hy => ⟨g y (by omega) (by omega), (f.2.1 y (by omega) (nS y (by omega))).2⟩) ((zz 1 (nF _ (by omega) (by omega) (by omega) (by omega) (by omega) (by omega) (by omega) (by omega) (by omega))).trans pI_eq) ?_ ?_ ?_ (m0.act hJ eJ r s aa ?_ ?_ (gm 78 (by omega) (by omega)) (gm 94 (by omega) (by omega)) (gm 95 (by omega) (by omega)))
  · rw [zz 2 (nF _ (by omega) (by omega) (by omega) (by omega) (by omega) (by omega) (by omega) (by omega) (by omega)), rfH_f (by decide) (by decide) (by decide), p74]
  · rw [zz 5 (nF _ (by omega) (by omega) (by omega) (by omega) (by omega) (by omega) (by omega) (by omega) (by omega)), rfH_f (by decide) (by decide) (by decide), p74]
  · rw [g 75 (by omega) (by omega), (kk 75 (by omega)).1]
  · exact (zz 44 (nF _ (by omega) (by omega) (by omega) (by omega) (by omega) (by omega) (by omega) (by omega) (by omega))).trans m0.2.2.1
  · exact (zz 46 (nF _ (by omega) (by omega) (by omega) (by omega) (by omega) (by omega) (by omega) (by omega) (by omega))).trans m0.2.2.2.1
theorem act_post {h ha hb hd : PH} {t t' : NT} {nm : NMS} {ac ac' : List NT} {ms : MES} (c : CX h t nm ac ms) (hJ : 0 < NT.J t) (eJ : NT.J t' = NT.J t) (tx : TxOK t') (fa : Fr acR (clH h 0) ha) (aa : ActC ha t' ac') (fb : Fr (fun y => 15 ≤ y ∧ y < 25) ha hb) (e16 : hb.2 = ha.2) (sd : SolC hd 14 t' (solveS (snOf t'))) (e2 : hd.1 72 2 = 0) (e0 : hd.1 72 0 = hb.1 72 0) (fd : Fr (fun y => rgW 14 y ∨ y = 72) hb hd) : CX hd t' nm ac' ms ∧ hd.1 0 = (clH h 0).1 0 ∧ hd.1 1 = h.1 1 ∧ kM h hd := by
  have nd : ∀ y, (y < 14 ∨ (15 ≤ y ∧ y < 25) ∨ 41 ≤ y) → y ≠ 72 → ¬ (rgW 14 y ∨ y = 72) := fun y h1 h2 q => by unfold rgW at q; omega
  have nb : ∀ y, (y < 15 ∨ 25 ≤ y) → ¬ (15 ≤ y ∧ y < 25) := fun y h1 q => by omega
  have na : ∀ y, (y < 68 ∨ 71 < y) → ¬ acR y := fun y h1 q => by unfold acR at q; omega
  have al : ∀ y, (y < 14 ∨ (41 ≤ y ∧ y < 68) ∨ 71 < y) → y ≠ 72 → hd.1 y = (clH h 0).1 y ∧ hd.2 y = h.2 y := fun y h1 h2 => by
    have q1 := fd y (nd y (by omega) h2)
    have q2 := fb y (nb y (by omega))
    have q3 := fa y (na y (by omega))
    exact ⟨q1.1.trans (q2.1.trans q3.1), q1.2.trans (q2.2.trans q3.2)⟩
  have e16' : hd.2 16 = h.2 16 := (fd 16 (nd 16 (by omega) (by omega))).2.trans ((congrFun e16 16).trans (fa 16 (na 16 (by omega))).2)
  have a68 : ∀ y, 68 ≤ y → y ≤ 71 → hd.1 y = ha.1 y := fun y h1 h2 => (fd y (nd y (by omega) (by omega))).1.trans (fb y (nb y (by omega))).1
  refine ⟨c.act hJ eJ tx sd ?_ e2 ?_ ?_ e16', (al 0 (by omega) (by omega)).1, (al 1 (by omega) (by omega)).1.trans (clH_1 (by decide)), fun y hy => ?_⟩
  · unfold ActC; rw [a68 68 (by omega) (by omega), a68 69 (by omega) (by omega), a68 70 (by omega) (by omega), a68 71 (by omega) (by omega)]; exact aa
  · rw [e0, (fb 72 (nb 72 (by omega))).1, (fa 72 (na 72 (by omega))).1, clH_1 (by decide)]
  · rw [(al 73 (by omega) (by omega)).1, clH_1 (by decide)]
  · have := al y (by omega) (by omega)
    exact ⟨this.1.trans (clH_1 (by omega)), this.2⟩
theorem RawM.rm {h h' : PH} {t : NT} (r : RawM h t) (f : FM rmS rmF h h') : RawM h' t := by
  have z : ∀ k, k ≠ 51 → h'.1 74 k = h.1 74 k := fun k hk => f.1 k hk
  have g : ∀ y, y < 96 → y ≠ 74 → h'.1 y = h.1 y := fun y hy h0 => (f.2.1 y h0 (fun q => by unfold rmS at q; omega)).1
  unfold RawM; rw [z 6 (by omega), z 7 (by omega), z 17 (by omega), g 76 (by omega) (by omega), g 77 (by omega) (by omega), g 79 (by omega) (by omega), g 80 (by omega) (by omega), g 81 (by omega) (by omega), g 82 (by omega) (by omega), g 83 (by omega) (by omega), g 84 (by omega) (by omega)]; exact r
theorem RawM.cl {h : PH} {t : NT} (r : RawM h t) (y : Int32) : RawM (pI h 74 17 y) (setCl t y) := by
  have z : ∀ k, k ≠ 17 → (pI h 74 17 y).1 74 k = h.1 74 k := fun k hk => pI_ne 74 k (Or.inr hk)
  have g : ∀ i, i ≠ 74 → (pI h 74 17 y).1 i = h.1 i := fun i hi => funext fun j => pI_ne _ j (Or.inl hi)
  obtain ⟨r1, r2, r3, r4, r5⟩ := r
  refine ⟨(z 6 (by decide)).trans r1, (z 7 (by decide)).trans r2, pI_eq, fun j hj => ?_, fun e he => ?_⟩
  · rw [g 76 (by decide), g 77 (by decide)]; exact r4 j hj
  · rw [g 79 (by decide), g 80 (by decide), g 81 (by decide), g 82 (by decide), g 83 (by decide), g 84 (by decide)]; exact r5 e he
theorem RawM.td {h : PH} {t t' : NT} (r : RawM h t) {j : Nat} {y : Int32} (e1 : NT.J t' = NT.J t) (e2 : NT.E t' = NT.E t) (e3 : NT.cl t' = NT.cl t) (e4 : ∀ k, k < NT.J t → tdM t' k = (if k = j then y else tdM t k) ∧ NT.ht t' k = NT.ht t k) (e5 : ∀ e, e < NT.E t → NT.fi t' e = NT.fi t e ∧ NT.se t' e = NT.se t e ∧ NT.kd t' e = NT.kd t e ∧ NT.rs t' e = NT.rs t e ∧ NT.lc t' e = NT.lc t e ∧ NT.lf t' e = NT.lf t e) : RawM (pI h 76 j y) t' := by
  have g : ∀ i, i ≠ 76 → (pI h 76 j y).1 i = h.1 i := fun i hi => funext fun j => pI_ne _ j (Or.inl hi)
  obtain ⟨r1, r2, r3, r4, r5⟩ := r
  refine ⟨by rw [g 74 (by decide), e1]; exact r1, by rw [g 74 (by decide), e2]; exact r2, by rw [g 74 (by decide), e3]; exact r3, fun k hk => ?_, fun e he => ?_⟩
  · rw [e1] at hk
    rw [g 77 (by decide), (e4 k hk).1, (e4 k hk).2]
    refine ⟨?_, (r4 k hk).2⟩
    by_cases q : k = j
    · rw [if_pos q, q]; exact pI_eq
    · rw [if_neg q, pI_ne 76 k (Or.inr q)]; exact (r4 k hk).1
  · rw [e2] at he
    obtain ⟨u1, u2, u3, u4, u5, u6⟩ := e5 e he
    have u7 : rsM t' e = rsM t e := by unfold rsM; rw [u3, u4]
    rw [g 79 (by decide), g 80 (by decide), g 81 (by decide), g 82 (by decide), g 83 (by decide), g 84 (by decide), u1, u2, u3, u5, u6, u7]; exact r5 e he
theorem RawM.rs {h : PH} {t : NT} (r : RawM h t) {j : Nat} (hk : ¬ NT.kd t j = 2) (y : Int32) : RawM (pI h 82 j y) (setRs t (fupd (NT.rs t) j y)) := by
  have g : ∀ i, i ≠ 82 → (pI h 82 j y).1 i = h.1 i := fun i hi => funext fun j => pI_ne _ j (Or.inl hi)
  obtain ⟨r1, r2, r3, r4, r5⟩ := r
  refine ⟨by rw [g 74 (by decide)]; exact r1, by rw [g 74 (by decide)]; exact r2, by rw [g 74 (by decide)]; exact r3, fun k hk => ?_, fun e he => ?_⟩
  · rw [g 76 (by decide), g 77 (by decide)]; exact r4 k hk
  · obtain ⟨m1, m2, m3, m4, m5, m6⟩ := r5 e he
    rw [g 79 (by decide), g 80 (by decide), g 81 (by decide), g 83 (by decide), g 84 (by decide)]
    refine ⟨m1, m2, m3, ?_, m5, m6⟩
    show (pI h 82 j y).1 82 e = if NT.kd t e = 2 then -2 else fupd (NT.rs t) j y e
    by_cases q : e = j
    · rw [q, pI_eq, if_neg hk, fupd_s]
    · rw [pI_ne 82 e (Or.inr q), fupd_n q]; exact m4
theorem NetC.wh {h : PH} {o : Nat} {t : NT} (c : NetC h o t) (y : Int32) : NetC (pI h o 2 y) o (setWh t y) := by
  have z : ∀ k, k ≠ 2 → (pI h o 2 y).1 o k = h.1 o k := fun k hk => pI_ne o k (Or.inr hk)
  have g : ∀ i, 0 < i → (pI h o 2 y).1 (o + i) = h.1 (o + i) := fun i hi => funext fun j => pI_ne _ j (Or.inl (by omega))
  obtain ⟨c1, c2, c3, c4, c5, c6⟩ := c
  refine ⟨(z 0 (by decide)).trans c1, (z 1 (by decide)).trans c2, pI_eq, (z 3 (by decide)).trans c4, fun j hj => ?_, fun e he => ?_⟩
  · rw [g 2 (by decide), g 3 (by decide)]; exact c5 j hj
  · rw [g 4 (by decide), g 5 (by decide), g 6 (by decide), g 7 (by decide), g 8 (by decide), g 9 (by decide)]; exact c6 e he
theorem TxOK.clw {t : NT} (tx : TxOK t) {y : Int32} (hy : lowB y) : TxOK (setCl t y) := ⟨tx.1.cl y, tx.2.1, tx.2.2.1, tx.2.2.2.1, hy⟩
theorem TxOK.drw {t : NT} (tx : TxOK t) {j : Nat} (h0 : 0 < j) {y : Int32} (hy : 0 ≤ y.toInt ∧ y.toInt ≤ 60) : TxOK (setDr t (fupd (NT.dr t) j y)) := by
  refine ⟨tx.1.setDr (fun k hk => ?_), tx.2.1, ?_, fun k hk => ?_, tx.2.2.2.2⟩
  · by_cases q : k = j
    · rw [q, fupd_s]; omega
    · rw [fupd_n q]; exact tx.1.2.2.2.2.1 k hk
  · show fupd (NT.dr t) j y 0 = 0
    rw [fupd_n (by omega)]; exact tx.2.2.1
  · show (fupd (NT.dr t) j y k).toInt ≤ 60
    by_cases q : k = j
    · rw [q, fupd_s]; exact hy.2
    · rw [fupd_n q]; exact tx.2.2.2.1 k hk
theorem TxOK.whw {t : NT} (tx : TxOK t) {y : Int32} (hy : 0 ≤ y.toInt ∧ y.toInt ≤ 999) : TxOK (setWh t y) := ⟨⟨tx.1.1, tx.1.2.1, tx.1.2.2.1, tx.1.2.2.2.1, tx.1.2.2.2.2.1, hy⟩, tx.2.1, tx.2.2.1, tx.2.2.2.1, tx.2.2.2.2⟩
theorem TxOK.rsw {t : NT} (tx : TxOK t) {j : Nat} {y : Int32} (hy : 1 ≤ y.toInt ∧ y.toInt ≤ 20) : TxOK (setRs t (fupd (NT.rs t) j y)) := ⟨tx.1.rsw hy, tx.2.1, tx.2.2.1, tx.2.2.2.1, tx.2.2.2.2⟩
theorem fupd_u {α : Type} {f : Nat → α} {j : Nat} {x : α} : fupd (fupd f j x) j (f j) = f := funext fun k => by
  by_cases q : k = j
  · rw [q, fupd_s]
  · rw [fupd_n q, fupd_n q]
theorem cl_back {x : Int32} {e : Nat} (he : e < 32) : ((x ^^^ ((1 : Int32) <<< (nI e &&& 31))) &&& (((1 : Int32) <<< (nI e &&& 31)) ^^^ -1)) ||| (b2i (bt x e = true) <<< (nI e &&& 31)) = x := by
  refine b_ext (fun i hi => ?_)
  rw [b_or, b_and, b_xor, b_not _ hi, b_one he hi, b_shl e he _ hi]
  by_cases q : i = e
  · subst q
    cases hb : bt x i
    · rw [b2i_f (by decide)]; simp; decide
    · rw [b2i_t rfl]; simp; decide
  · have : bt (b2i (bt x e = true)) (i - e) = false ∨ ¬ e ≤ i := by
      by_cases z : e ≤ i
      · left
        rcases (b2i_or (c := bt x e = true)) with w | w
        · rw [w]; exact b_0 _
        · rw [w]
          have k : ∀ j, j < 32 → 0 < j → bt 1 j = false := by decide +kernel
          exact k (i - e) (by omega) (by omega)
      · exact Or.inr z
    rcases this with w | w
    · rw [w]; simp [q]
    · simp [q, w]
theorem tb_cl {t : NT} {e : Nat} (he : e < NT.E t) (h14 : NT.E t ≤ 14) : TB 0 (nI e) (b2i (bt (NT.cl t) e = true)) (setCl t (NT.cl t ^^^ ((1 : Int32) <<< (nI e &&& 31)))) t := by
  refine Or.inl ⟨rfl, e, he, rfl, b2i_or, ?_⟩
  show t = setCl t (((NT.cl t ^^^ ((1 : Int32) <<< (nI e &&& 31))) &&& (((1 : Int32) <<< (nI e &&& 31)) ^^^ -1)) ||| (b2i (bt (NT.cl t) e = true) <<< (nI e &&& 31)))
  rw [cl_back (by omega)]; rfl
theorem tb_dr {t : NT} {j : Nat} (h0 : 0 < j) (hj : j < NT.J t) {n : Int32} : TB 1 (nI j) (NT.dr t j) (setDr t (fupd (NT.dr t) j n)) t := by
  refine Or.inr (Or.inl ⟨rfl, j, h0, hj, rfl, ?_⟩)
  show t = setDr t (fupd (fupd (NT.dr t) j n) j (NT.dr t j))
  rw [fupd_u]; rfl
theorem tb_wh {t : NT} {p n : Int32} : TB 2 p (NT.wh t) (setWh t n) t := Or.inr (Or.inr (Or.inl ⟨rfl, rfl⟩))
theorem tb_rs {t : NT} {e : Nat} (he : e < NT.E t) (hk : ¬ NT.kd t e = 2) {n : Int32} : TB 3 (nI e) (NT.rs t e) (setRs t (fupd (NT.rs t) e n)) t := by
  refine Or.inr (Or.inr (Or.inr ⟨rfl, e, he, hk, rfl, ?_⟩))
  show t = setRs t (fupd (fupd (NT.rs t) e n) e (NT.rs t e))
  rw [fupd_u]; rfl
