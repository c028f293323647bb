/-! ===== one state for both: what the class's cells hold, what the reference's cells hold ===== -/
def setCl (t : NT) (x : Int32) : NT := (NT.J t, NT.E t, NT.fi t, NT.se t, NT.kd t, NT.rs t, NT.lc t, NT.lf t, NT.dr t, NT.wh t, x, NT.ht t)
def setDr (t : NT) (x : Nat → Int32) : NT := (NT.J t, NT.E t, NT.fi t, NT.se t, NT.kd t, NT.rs t, NT.lc t, NT.lf t, x, NT.wh t, NT.cl t, NT.ht t)
def setWh (t : NT) (x : Int32) : NT := (NT.J t, NT.E t, NT.fi t, NT.se t, NT.kd t, NT.rs t, NT.lc t, NT.lf t, NT.dr t, x, NT.cl t, NT.ht t)
def setRs (t : NT) (x : Nat → Int32) : NT := (NT.J t, NT.E t, NT.fi t, NT.se t, NT.kd t, x, NT.lc t, NT.lf t, NT.dr t, NT.wh t, NT.cl t, NT.ht t)
/-- a TEXT that stands -/
def TxOK (t : NT) : Prop := okT t ∧ 1 < NT.J t ∧ NT.dr t 0 = 0 ∧ (∀ j, j < NT.J t → (NT.dr t j).toInt ≤ 60) ∧ lowB (NT.cl t)
/-- what an act put aside brings back -/
def TB (k p o : Int32) (t1 t0 : NT) : Prop := (k = 0 ∧ ∃ e, e < NT.E t1 ∧ p = nI e ∧ (o = 0 ∨ o = 1) ∧ t0 = setCl t1 ((NT.cl t1 &&& (((1 : Int32) <<< (nI e &&& 31)) ^^^ -1)) ||| (o <<< (nI e &&& 31)))) ∨ (k = 1 ∧ ∃ j, 0 < j ∧ j < NT.J t1 ∧ p = nI j ∧ t0 = setDr t1 (fupd (NT.dr t1) j o)) ∨ (k = 2 ∧ t0 = setWh t1 o) ∨ (k = 3 ∧ ∃ e, e < NT.E t1 ∧ ¬ NT.kd t1 e = 2 ∧ p = nI e ∧ t0 = setRs t1 (fupd (NT.rs t1) e o))
def acAt (ac : List NT) (t : NT) (k : Nat) : NT := (ac ++ [t]).getD k t
def rsM (t : NT) (e : Nat) : Int32 := if NT.kd t e = 2 then -2 else NT.rs t e
def tdM (t : NT) (j : Nat) : Int32 := if j = 0 then NT.wh t else NT.dr t j
def packN (L : List Nat) : Nat := L.foldl (fun a c => 256 * a + c) 0
abbrev NMS : Type := Nat → List Nat
abbrev MES : Type := Nat → Option Int32
def nmOK (t : NT) (nm : NMS) : Prop := ∀ j, j < NT.J t → 1 ≤ (nm j).length ∧ (nm j).length ≤ 6 ∧ ∀ c ∈ nm j, 97 ≤ c ∧ c ≤ 122
def msOK (t : NT) (ms : MES) : Prop := ∀ j v, ms j = some v → 1 ≤ j ∧ j < NT.J t ∧ -900000 ≤ v.toInt ∧ v.toInt ≤ 900000
/-- a leak: how far off, where, how much -/
def offT (t : NT) (ms : MES) : Nat → Nat → Int64 → Int64
  | 0, _, a => a
  | m + 1, j, a => offT t ms m (j + 1) (match ms j with | none => a | some v => a + (if (trS (snOf t) (solveS (snOf t)).1).2.2.2 j = true then abS (hdS (snOf t) (solveS (snOf t)).1 j - v.toInt64) else 1000000))
def moreT (t : NT) (j : Nat) (n : Int32) : NT := setDr t (fupd (NT.dr t) j (NT.dr t j + n))
def farT (t : NT) (ms : MES) (j n : Nat) : Int64 := offT (moreT t j (nI n)) ms (NT.J t - 1) 1 0
def lk1 (t : NT) (ms : MES) (j : Nat) : Nat → Nat → Option (Nat × Nat × Int64) → Option (Nat × Nat × Int64)
  | 0, _, b => b
  | m + 1, n, b => lk1 t ms j m (n + 1) (match b with | none => some (j, n, farT t ms j n) | some x => if farT t ms j n < x.2.2 then some (j, n, farT t ms j n) else some x)
def lk2 (t : NT) (ms : MES) : Nat → Nat → Option (Nat × Nat × Int64) → Option (Nat × Nat × Int64)
  | 0, _, b => b
  | m + 1, j, b => lk2 t ms m (j + 1) (lk1 t ms j 40 1 b)
def lkS (t : NT) (ms : MES) : Nat × Nat × Int64 := (lk2 t ms (NT.J t - 1) 1 none).getD (0, 0, 0)
/-! the class -/
def CT (h : PH) (n : Nat) (bs : Nat → Int32) : Prop := h.1 0 1 = nI n ∧ n ≤ 600 ∧ ∀ i, i < n → h.1 1 i = (bs i).toInt8.toInt32
def CE (h : PH) (tr fl wp : Int32) : Prop := h.1 0 4 = tr ∧ h.1 0 2 = fl ∧ h.1 0 3 = wp
def NamC (h : PH) (o : Nat) (t : NT) (nm : NMS) : Prop := ∀ j, j < NT.J t → h.2 (o + 1) j = lN (packN (nm j))
def ActC (h : PH) (t : NT) (ac : List NT) : Prop := h.1 68 0 = nI ac.length ∧ ac.length ≤ 12 ∧ ∀ k, k < ac.length → TxOK (acAt ac t k) ∧ TB (h.1 69 k) (h.1 70 k) (h.1 71 k) (acAt ac t (k + 1)) (acAt ac t k)
def MeaC (h : PH) (t : NT) (ms : MES) : Prop := (∀ j, j < 32 → bt (h.1 72 0) j = (ms j).isSome) ∧ (∀ j v, ms j = some v → h.1 73 j = v) ∧ (h.1 72 2 = 0 ∨ (h.1 72 2 = 1 ∧ ((∀ j, ms j = none) ∨ (h.1 72 3 = nI (lkS t ms).1 ∧ h.1 72 4 = nI (lkS t ms).2.1 ∧ h.2 72 5 = (lkS t ms).2.2))))
def CX (h : PH) (t : NT) (nm : NMS) (ac : List NT) (ms : MES) : Prop := h.1 15 0 = nI (NT.J t) ∧ h.1 15 1 = nI (NT.E t) ∧ (NT.J t = 0 → NT.E t = 0) ∧ (0 < NT.J t → TxOK t ∧ nmOK t nm ∧ msOK t ms ∧ SolC h 14 t (solveS (snOf t)) ∧ NamC h 15 t nm ∧ ActC h t ac ∧ MeaC h t ms)
/-! the reference -/
def MT (h : PH) (n : Nat) (bs : Nat → Int32) : Prop := h.1 74 5 = nI n ∧ n ≤ 600 ∧ ∀ i, i < n → h.1 75 i = bs i ∧ 0 ≤ (bs i).toInt ∧ (bs i).toInt < 256
def ME (h : PH) (tr fl wp : Int32) : Prop := h.1 74 1 = tr ∧ h.1 74 2 = fl ∧ (tr = 4 → h.1 74 3 = wp) ∧ (tr ≠ 4 → wp = -1)
/-- what is told, with nothing on paper -/
def RawM (h : PH) (t : NT) : Prop := h.1 74 6 = nI (NT.J t) ∧ h.1 74 7 = nI (NT.E t) ∧ h.1 74 17 = NT.cl t ∧ (∀ j, j < NT.J t → h.1 76 j = tdM t j ∧ h.1 77 j = NT.ht t j) ∧
  ∀ e, e < NT.E t → h.1 79 e = nI (NT.fi t e) ∧ h.1 80 e = nI (NT.se t e) ∧ h.1 81 e = NT.kd t e ∧ h.1 82 e = rsM t e ∧ h.1 84 e = nI (NT.lc t e) ∧ ∀ k, k < NT.lc t e → h.1 83 (6 * e + k) = NT.lf t e k
def NamM (h : PH) (b : Nat) (t : NT) (nm : NMS) : Prop := ∀ j, j < NT.J t → ∀ k, k < 6 → h.1 78 (6 * (b + j) + k) = if k < (nm j).length then nI ((nm j).getD k 0) else 0
def ActM (h : PH) (t : NT) (ac : List NT) : Prop := h.1 74 51 = nI ac.length ∧ ∀ k, k < ac.length → h.1 98 k = NT.cl (acAt ac t k) ∧ (∀ j, j < NT.J t → h.1 96 (9 * k + j) = tdM (acAt ac t k) j) ∧ ∀ e, e < NT.E t → h.1 97 (14 * k + e) = rsM (acAt ac t k) e
def MeaM (h : PH) (ms : MES) : Prop := ∀ j, j < 9 → h.1 94 j = bI (ms j).isSome ∧ ∀ v, ms j = some v → h.1 95 j = v
def MX (h : PH) (t : NT) (nm : NMS) (ac : List NT) (ms : MES) : Prop := h.1 74 6 = nI (NT.J t) ∧ h.1 74 7 = nI (NT.E t) ∧ h.1 74 44 = -1 ∧ h.1 74 46 = 100 ∧ (NT.J t = 0 → h.1 74 34 = 0) ∧ (0 < NT.J t → RawM h t ∧ SolM h t (solveS (snOf t)) ∧ NamM h 0 t nm ∧ ActM h t ac ∧ MeaM h ms)
def INV (h : PH) : Prop := ∃ n bs tr fl wp t nm ac ms, CT h n bs ∧ CE h tr fl wp ∧ CX h t nm ac ms ∧ MT h n bs ∧ ME h tr fl wp ∧ MX h t nm ac ms
/-! what stays -/
def kC (h h' : PH) : Prop := ∀ y, 14 ≤ y → y < 74 → h'.1 y = h.1 y ∧ h'.2 y = h.2 y
def kM (h h' : PH) : Prop := ∀ y, 74 ≤ y → h'.1 y = h.1 y ∧ h'.2 y = h.2 y
theorem CX.k {h h' : PH} {t : NT} {nm : NMS} {ac : List NT} {ms : MES} (c : CX h t nm ac ms) (k : kC h h') : CX h' t nm ac ms := by
  have g : ∀ y, 14 ≤ y → y < 74 → h'.1 y = h.1 y := fun y a b => (k y a b).1
  have g2 : ∀ y, 14 ≤ y → y < 74 → h'.2 y = h.2 y := fun y a b => (k y a b).2
  have f : Fr (fun y => y < 14 ∨ 74 ≤ y) h h' := fun y hy => k y (by omega) (by omega)
  obtain ⟨c1, c2, c3, c4⟩ := c
  refine ⟨by rw [g 15 (by omega) (by omega)]; exact c1, by rw [g 15 (by omega) (by omega)]; exact c2, c3, fun h0 => ?_⟩
  obtain ⟨d1, d2, d3, d4, d5, d6, d7⟩ := c4 h0
  refine ⟨d1, d2, d3, ?_, ?_, ?_, ?_⟩
  · obtain ⟨s1, s2, s3, s4, s5, s6, s7, s8, s9⟩ := d4
    refine ⟨s1.fr f (fun j hj q => by omega), ?_, ?_, ?_, ?_, s6.fr f (fun j hj q => by omega), s7.fr f (fun j hj q => by omega), ?_, ?_⟩
    · rw [g 14 (by omega) (by omega)]; exact s2
    · rw [g 14 (by omega) (by omega)]; exact s3
    · rw [g 14 (by omega) (by omega)]; exact s4
    · rw [g 14 (by omega) (by omega)]; exact s5
    · rw [g2 36 (by omega) (by omega)]; exact s8
    · rw [g2 37 (by omega) (by omega)]; exact s9
  · unfold NamC; rw [g2 16 (by omega) (by omega)]; exact d5
  · unfold ActC; rw [g 68 (by omega) (by omega), g 69 (by omega) (by omega), g 70 (by omega) (by omega), g 71 (by omega) (by omega)]; exact d6
  · unfold MeaC; rw [g 72 (by omega) (by omega), g 73 (by omega) (by omega), g2 72 (by omega) (by omega)]; exact d7
theorem SolM.k {h h' : PH} {t : NT} {x : Int32 × Nat × Bool} (c : SolM h t x) (k : kM h h') : SolM h' t x := by
  have g : ∀ y, 74 ≤ y → h'.1 y = h.1 y := fun y a => (k y a).1
  have g2 : ∀ y, 74 ≤ y → h'.2 y = h.2 y := fun y a => (k y a).2
  unfold SolM NetM drE TreeM RingsM RAtM
  rw [g 74 (by omega), g 76 (by omega), g 77 (by omega), g 79 (by omega), g 80 (by omega), g 81 (by omega), g 82 (by omega), g 83 (by omega), g 84 (by omega), g 85 (by omega), g 86 (by omega), g 88 (by omega), g 89 (by omega), g 90 (by omega), g2 87 (by omega), g2 91 (by omega)]
  exact c
theorem MX.k {h h' : PH} {t : NT} {nm : NMS} {ac : List NT} {ms : MES} (c : MX h t nm ac ms) (k : kM h h') : MX h' t nm ac ms := by
  have g : ∀ y, 74 ≤ y → h'.1 y = h.1 y := fun y a => (k y a).1
  obtain ⟨c1, c2, c3, c4, c5, c6⟩ := c
  have g74 := g 74 (by omega)
  refine ⟨by rw [g74]; exact c1, by rw [g74]; exact c2, by rw [g74]; exact c3, by rw [g74]; exact c4, fun q => by rw [g74]; exact c5 q, fun h0 => ?_⟩
  obtain ⟨d1, d2, d3, d4, d5⟩ := c6 h0
  refine ⟨?_, d2.k k, ?_, ?_, ?_⟩
  · unfold RawM; rw [g74, g 76 (by omega), g 77 (by omega), g 79 (by omega), g 80 (by omega), g 81 (by omega), g 82 (by omega), g 83 (by omega), g 84 (by omega)]; exact d1
  · unfold NamM; rw [g 78 (by omega)]; exact d3
  · unfold ActM; rw [g74, g 96 (by omega), g 97 (by omega), g 98 (by omega)]; exact d4
  · unfold MeaM; rw [g 94 (by omega), g 95 (by omega)]; exact d5
theorem MX.f2 {h : PH} {t : NT} {nm : NMS} {ac : List NT} {ms : MES} (c : MX h t nm ac ms) {k : Nat} (x : Int32) (hk : k < 6 ∨ (17 < k ∧ k < 28) ∨ (46 < k ∧ k ≠ 51)) : MX (pI h 74 k x) t nm ac ms := by
  have z : ∀ m, k ≠ m → (pI h 74 k x).1 74 m = h.1 74 m := fun m hm => pI_ne 74 m (Or.inr (Ne.symm hm))
  have g : ∀ y, y ≠ 74 → (pI h 74 k x).1 y = h.1 y := fun y hy => funext fun j => pI_ne y j (Or.inl hy)
  obtain ⟨c1, c2, c3, c4, c5, c6⟩ := c
  refine ⟨(z 6 (by omega)).trans c1, (z 7 (by omega)).trans c2, (z 44 (by omega)).trans c3, (z 46 (by omega)).trans c4, fun q => (z 34 (by omega)).trans (c5 q), fun h0 => ?_⟩
  obtain ⟨d1, d2, d3, d4, d5⟩ := c6 h0
  refine ⟨?_, d2.f2 x (by omega), ?_, ?_, ?_⟩
  · unfold RawM; rw [z 6 (by omega), z 7 (by omega), z 17 (by omega), g 76 (by decide), g 77 (by decide), g 79 (by decide), g 80 (by decide), g 81 (by decide), g 82 (by decide), g 83 (by decide), g 84 (by decide)]; exact d1
  · unfold NamM; rw [g 78 (by decide)]; exact d3
  · unfold ActM; rw [z 51 (by omega), g 96 (by decide), g 97 (by decide), g 98 (by decide)]; exact d4
  · unfold MeaM; rw [g 94 (by decide), g 95 (by decide)]; exact d5
/-- refused or allowed, of the class -/
def clH (h : PH) (x : Int32) : PH := pI (pI h 0 4 x) 0 3 (-1)
theorem clH_1 {h : PH} {x : Int32} {y : Nat} (hy : y ≠ 0) : (clH h x).1 y = h.1 y := funext fun j => (pI_ne y j (Or.inl hy)).trans (pI_ne y j (Or.inl hy))
theorem clH_kM {h : PH} {x : Int32} : kM h (clH h x) := fun y hy => ⟨clH_1 (by omega), rfl⟩
theorem clH_kC {h : PH} {x : Int32} : kC h (clH h x) := fun y hy _ => ⟨clH_1 (by omega), rfl⟩
theorem rfH_1 {h : PH} {x : Int32} {y : Nat} (hy : y ≠ 74) : (rfH h x).1 y = h.1 y := funext fun j => (pI_ne y j (Or.inl hy)).trans ((pI_ne y j (Or.inl hy)).trans (pI_ne y j (Or.inl hy)))
theorem rfH_kC {h : PH} {x : Int32} : kC h (rfH h x) := fun y _ hy => ⟨rfH_1 (by omega), rfl⟩
theorem MX.rf {h : PH} {t : NT} {nm : NMS} {ac : List NT} {ms : MES} (c : MX h t nm ac ms) (x : Int32) : MX (rfH h x) t nm ac ms := ((c.f2 0 (k := 0) (by omega)).f2 (-1) (k := 3) (by omega)).f2 x (k := 1) (by omega)
theorem rfH_f {h : PH} {x : Int32} {k : Nat} (h0 : k ≠ 0) (h1 : k ≠ 1) (h3 : k ≠ 3) : (rfH h x).1 74 k = h.1 74 k := (pI_ne 74 k (Or.inr h1)).trans ((pI_ne 74 k (Or.inr h3)).trans (pI_ne 74 k (Or.inr h0)))
/-- both refuse or allow: what stands stays -/
theorem INV.say {h : PH} (i : INV h) {x : Int32} (hx : x ≠ 4) : INV (rfH (clH h x) x) := by
  obtain ⟨n, bs, tr, fl, wp, t, nm, ac, ms, i1, i2, i3, i4, i5, i6⟩ := i
  refine ⟨n, bs, x, fl, -1, t, nm, ac, ms, ?_, ?_, (i3.k clH_kC).k rfH_kC, ?_, ?_, (i6.k clH_kM).rf x⟩
  · refine ⟨?_, i1.2.1, fun j hj => ?_⟩
    · rw [rfH_1 (by decide)]
      exact ((pI_ne 0 1 (Or.inr (by decide))).trans (pI_ne 0 1 (Or.inr (by decide)))).trans i1.1
    · rw [rfH_1 (by decide), clH_1 (by decide)]; exact i1.2.2 j hj
  · refine ⟨?_, ?_, ?_⟩
    · rw [rfH_1 (by decide)]; exact (pI_ne 0 4 (Or.inr (by decide))).trans pI_eq
    · rw [rfH_1 (by decide)]; exact ((pI_ne 0 2 (Or.inr (by decide))).trans (pI_ne 0 2 (Or.inr (by decide)))).trans i2.2.1
    · rw [rfH_1 (by decide)]; exact pI_eq
  · refine ⟨?_, i4.2.1, fun j hj => ?_⟩
    · rw [rfH_f (by decide) (by decide) (by decide), clH_1 (by decide)]; exact i4.1
    · rw [rfH_1 (by decide), clH_1 (by decide)]; exact i4.2.2 j hj
  · refine ⟨pI_eq, ?_, fun q => absurd q hx, fun _ => rfl⟩
    rw [rfH_f (by decide) (by decide) (by decide), clH_1 (by decide)]; exact i5.2.1
/-- told, and nothing on paper -/
theorem RawM.net {h : PH} {t : NT} (r : RawM h t) (tx : TxOK t) (h44 : h.1 74 44 = -1) (h46 : h.1 74 46 = 100) : NetM h t := by
  obtain ⟨r1, r2, r3, r4, r5⟩ := r
  have ok := tx.1
  refine ⟨r1, r2, ?_, r3, fun j hj hJ => ?_, fun j hj => (r4 j hj).2, fun e he => ?_⟩
  · exact (r4 0 (by have := tx.2.1; omega)).1
  · unfold drE
    rw [h44, h46, if_neg (nI_ne_m1 (by have := ok.2.1; omega)), (r4 j hJ).1, show tdM t j = NT.dr t j from if_neg (by omega), Int32.add_zero]
    have b1 := (ok.2.2.2.2.1 j hJ).1
    have b2 := tx.2.2.2.1 j hJ
    generalize NT.dr t j = d at b1 b2
    have key : ∀ n : Nat, n < 61 → nI n * 100 / 100 = nI n := by decide +kernel
    have : d = nI d.toInt.toNat := by
      rw [fa_eq]
      have : ∀ n : Nat, n < 61 → (nI n).toInt = (n : Int) := by decide +kernel
      rw [this _ (by omega)]; omega
    rw [this]; exact key _ (by omega)
  · obtain ⟨e1, e2, e3, e4, e5, e6⟩ := r5 e he
    exact ⟨e1, e2, e3, fun q => by rw [e4]; exact if_neg q, e5, e6⟩
