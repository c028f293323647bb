/-! ===== both: what is asked on paper; early ===== -/
def Same2 (M1 : MI) (d1 : Nat) (as1 : List Value) (M2 : MI) (d2 : Nat) (as2 : List Value) (h : PH) : Prop := ∃ v, ∃ P : PH → Prop, ∃ Q : PH → PH → Prop, Con M1 d1 as1 h (fun a h1 => a = some v ∧ P h1) ∧ (∀ h1, P h1 → Con M2 d2 as2 h1 (fun a h2 => a = some v ∧ Q h1 h2)) ∧ ∀ h1 h2, P h1 → Q h1 h2 → INV h2
theorem Same.to2 {M1 : MI} {d1 : Nat} {as1 : List Value} {M2 : MI} {d2 : Nat} {as2 : List Value} {h : PH} (i : INV h) (s : Same M1 d1 as1 M2 d2 as2 h) : Same2 M1 d1 as1 M2 d2 as2 h := by
  obtain ⟨v, why, hw, c1, c2⟩ := s
  refine ⟨v, fun h1 => h1 = clH h why, fun h1 h2 => h2 = rfH h1 why, c1, fun h1 e => ?_, fun h1 h2 e1 e2 => ?_⟩
  · subst e; exact c2
  · rw [e2, e1]; exact i.say hw
theorem Quiet.to2 {M1 : MI} {d1 : Nat} {as1 : List Value} {M2 : MI} {d2 : Nat} {as2 : List Value} {h : PH} (i : INV h) (s : Quiet M1 d1 as1 M2 d2 as2 h) : Same2 M1 d1 as1 M2 d2 as2 h := by
  obtain ⟨v, c1, c2⟩ := s
  refine ⟨v, fun h1 => h1 = h, fun h1 h2 => h2 = pI h1 74 0 0, c1, fun h1 e => ?_, fun h1 h2 e1 e2 => ?_⟩
  · subst e; exact c2
  · rw [e2, e1]; exact i.q 0
/-- the class's paper -/
def pap : Nat → Prop := fun y => 41 ≤ y ∧ y < 68
/-- the class said x, and used its paper -/
def PC (h : PH) (x : Int32) (h1 : PH) : Prop := Fr pap (clH h x) h1
theorem PC.kM {h h1 : PH} {x : Int32} (p : PC h x h1) : kM h h1 := fun y hy => by
  have := p y (fun q => by have := q.2; omega)
  exact ⟨this.1.trans (clH_1 (by omega)), this.2⟩
theorem CX.pp {h h' : PH} {t : NT} {nm : NMS} {ac : List NT} {ms : MES} (c : CX h t nm ac ms) (k : Fr pap h h') : CX h' t nm ac ms := by
  have g : ∀ y, ¬ pap y → h'.1 y = h.1 y := fun y a => (k y a).1
  have g2 : ∀ y, ¬ pap y → h'.2 y = h.2 y := fun y a => (k y a).2
  have nlo : ∀ y, y < 41 → ¬ pap y := fun y hy q => by have := q.1; omega
  have nhi : ∀ y, 68 ≤ y → ¬ pap y := fun y hy q => by have := q.2; omega
  obtain ⟨c1, c2, c3, c4⟩ := c
  refine ⟨by rw [g 15 (nlo _ (by omega))]; exact c1, by rw [g 15 (nlo _ (by omega))]; exact c2, c3, fun h0 => ?_⟩
  obtain ⟨d1, d2, d3, d4, d5, d6, d7⟩ := c4 h0
  refine ⟨d1, d2, d3, ?_, ?_, ?_, ?_⟩
  · obtain ⟨s1, s2, s3, s4, s5, s6, s7, s8, s9⟩ := d4
    refine ⟨s1.fr k (fun j hj => nlo _ (by omega)), ?_, ?_, ?_, ?_, s6.fr k (fun j hj => nlo _ (by omega)), s7.fr k (fun j hj => nlo _ (by omega)), ?_, ?_⟩
    · rw [g 14 (nlo _ (by omega))]; exact s2
    · rw [g 14 (nlo _ (by omega))]; exact s3
    · rw [g 14 (nlo _ (by omega))]; exact s4
    · rw [g 14 (nlo _ (by omega))]; exact s5
    · rw [g2 36 (nlo _ (by omega))]; exact s8
    · rw [g2 37 (nlo _ (by omega))]; exact s9
  · unfold NamC; rw [g2 16 (nlo _ (by omega))]; exact d5
  · unfold ActC; rw [g 68 (nhi _ (by omega)), g 69 (nhi _ (by omega)), g 70 (nhi _ (by omega)), g 71 (nhi _ (by omega))]; exact d6
  · unfold MeaC; rw [g 72 (nhi _ (by omega)), g 73 (nhi _ (by omega)), g2 72 (nhi _ (by omega))]; exact d7
/-- what the reference laid anew is as it was -/
theorem MX.fm {h h' : PH} {t : NT} {nm : NMS} {ac : List NT} {ms : MES} (c : MX h t nm ac ms) (s : SolM h' t (solveS (snOf t))) (f : FM slS slF h h') (hJ : 0 < NT.J t) : MX h' t nm ac ms := by
  have z : ∀ k, k < 28 ∨ 41 < k → h'.1 74 k = h.1 74 k := fun k hk => f.1 k (fun q => by unfold slF at q; omega)
  have g : ∀ y, (y < 85 ∨ 93 < y) → y ≠ 74 → h'.1 y = h.1 y := fun y hy h0 => (f.2.1 y h0 (fun q => by unfold slS at q; omega)).1
  obtain ⟨c1, c2, c3, c4, c5, c6⟩ := c
  refine ⟨(z 6 (by omega)).trans c1, (z 7 (by omega)).trans c2, (z 44 (by omega)).trans c3, (z 46 (by omega)).trans c4, fun q => by omega, fun _ => ?_⟩
  obtain ⟨d1, -, d3, d4, d5⟩ := c6 hJ
  refine ⟨?_, s, ?_, ?_, ?_⟩
  · unfold RawM; rw [z 6 (by omega), z 7 (by omega), z 17 (by omega), g 76 (by omega) (by omega), g 77 (by omega) (by omega), g 79 (by omega) (by omega), g 80 (by omega) (by omega), g 81 (by omega) (by omega), g 82 (by omega) (by omega), g 83 (by omega) (by omega), g 84 (by omega) (by omega)]; exact d1
  · unfold NamM; rw [g 78 (by omega) (by omega)]; exact d3
  · unfold ActM; rw [z 51 (by omega), g 96 (by omega) (by omega), g 97 (by omega) (by omega), g 98 (by omega) (by omega)]; exact d4
  · unfold MeaM; rw [g 94 (by omega) (by omega), g 95 (by omega) (by omega)]; exact d5
/-- both said x; the class used its paper, the reference laid its net anew -/
theorem inv_paper {h h1 h2 : PH} {n : Nat} {bs : Nat → Int32} {tr fl wp : Int32} {t : NT} {nm : NMS} {ac : List NT} {ms : MES} (i1 : CT h n bs) (i2 : CE h tr fl wp) (i3 : CX h t nm ac ms) (i4 : MT h n bs) (i5 : ME h tr fl wp) {x : Int32} (hx : x ≠ 4) (p : PC h x h1) (f : FM slS slF (rfH h1 x) h2) (m : MX h2 t nm ac ms) : INV h2 := by
  have a0 : ∀ y, y < 41 → h2.1 y = (clH h x).1 y := fun y hy => by
    rw [(f.2.1 y (by omega) (fun q => by have := q.1; omega)).1, rfH_1 (by omega)]
    exact (p y (fun q => by have := q.1; omega)).1
  have z : ∀ k, k < 28 → h2.1 74 k = (rfH h1 x).1 74 k := fun k hk => f.1 k (fun q => by unfold slF at q; omega)
  have p74 : h1.1 74 = h.1 74 := (p.kM 74 (by omega)).1
  refine ⟨n, bs, x, fl, -1, t, nm, ac, ms, ?_, ?_, ?_, ?_, ?_, m⟩
  · refine ⟨?_, i1.2.1, fun j hj => ?_⟩
    · rw [a0 0 (by omega)]
      exact ((pI_ne 0 1 (Or.inr (by decide))).trans (pI_ne 0 1 (Or.inr (by decide)))).trans i1.1
    · rw [a0 1 (by omega), clH_1 (by decide)]; exact i1.2.2 j hj
  · refine ⟨?_, ?_, ?_⟩
    · rw [a0 0 (by omega)]; exact (pI_ne 0 4 (Or.inr (by decide))).trans pI_eq
    · rw [a0 0 (by omega)]; exact ((pI_ne 0 2 (Or.inr (by decide))).trans (pI_ne 0 2 (Or.inr (by decide)))).trans i2.2.1
    · rw [a0 0 (by omega)]; exact pI_eq
  · refine (((i3.k clH_kC).pp p).k rfH_kC).k (fun y h1 h2 => f.2.1 y (by omega) (fun q => by have := q.1; omega))
  · refine ⟨?_, i4.2.1, fun j hj => ?_⟩
    · rw [z 5 (by omega), rfH_f (by decide) (by decide) (by decide), p74]; exact i4.1
    · rw [(f.2.1 75 (by omega) (fun q => by have := q.1; omega)).1, rfH_1 (by decide), (p.kM 75 (by omega)).1]; exact i4.2.2 j hj
  · refine ⟨(z 1 (by omega)).trans pI_eq, ?_, fun q => absurd q hx, fun _ => rfl⟩
    rw [z 2 (by omega), rfH_f (by decide) (by decide) (by decide), p74]; exact i5.2.1
