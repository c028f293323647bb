/-! ===== a net as it is told: JOINTS, EDGES, FIRST, SECOND, kind, RESIST, how many LIFTS, LIFTS, draws, HEAD of the well, CLOSED, heights ===== -/
abbrev NT : Type := Nat × Nat × (Nat → Nat) × (Nat → Nat) × (Nat → Int32) × (Nat → Int32) × (Nat → Nat) × (Nat → Nat → Int32) × (Nat → Int32) × Int32 × Int32 × (Nat → Int32)
abbrev NT.J (t : NT) : Nat := t.1
abbrev NT.E (t : NT) : Nat := t.2.1
abbrev NT.fi (t : NT) : Nat → Nat := t.2.2.1
abbrev NT.se (t : NT) : Nat → Nat := t.2.2.2.1
abbrev NT.kd (t : NT) : Nat → Int32 := t.2.2.2.2.1
abbrev NT.rs (t : NT) : Nat → Int32 := t.2.2.2.2.2.1
abbrev NT.lc (t : NT) : Nat → Nat := t.2.2.2.2.2.2.1
abbrev NT.lf (t : NT) : Nat → Nat → Int32 := t.2.2.2.2.2.2.2.1
abbrev NT.dr (t : NT) : Nat → Int32 := t.2.2.2.2.2.2.2.2.1
abbrev NT.wh (t : NT) : Int32 := t.2.2.2.2.2.2.2.2.2.1
abbrev NT.cl (t : NT) : Int32 := t.2.2.2.2.2.2.2.2.2.2.1
abbrev NT.ht (t : NT) : Nat → Int32 := t.2.2.2.2.2.2.2.2.2.2.2
def lsT (t : NT) (e : Nat) (f : Int64) : Int64 := lossS (NT.kd t e) (NT.rs t e) (nI (NT.lc t e)) (NT.lf t e) f
def spT (t : NT) (e : Nat) (f : Int64) : Int64 := steepS (NT.kd t e) (NT.rs t e) f
def drT (t : NT) (j : Nat) : Int64 := if j < NT.J t then (NT.dr t j).toInt64 else 0
def snOf (t : NT) : SN := (NT.E t, NT.fi t, NT.se t, NT.kd t, lsT t, spT t, drT t, 100 * (NT.wh t).toInt64, NT.cl t)
def okT (t : NT) : Prop := 0 < NT.J t ∧ NT.J t ≤ 9 ∧ NT.E t ≤ 14 ∧
  (∀ e, e < NT.E t → NT.fi t e < NT.J t ∧ NT.se t e < NT.J t ∧ NT.fi t e ≠ NT.se t e ∧ (NT.kd t e = 0 ∨ NT.kd t e = 1 ∨ NT.kd t e = 2) ∧ (NT.kd t e ≠ 2 → 1 ≤ (NT.rs t e).toInt ∧ (NT.rs t e).toInt ≤ 20) ∧ NT.lc t e ≤ 6 ∧ ∀ k, k < NT.lc t e → 0 ≤ (NT.lf t e k).toInt ∧ (NT.lf t e k).toInt ≤ 300) ∧
  (∀ j, j < NT.J t → 0 ≤ (NT.dr t j).toInt ∧ (NT.dr t j).toInt ≤ 1000) ∧ (0 ≤ (NT.wh t).toInt ∧ (NT.wh t).toInt ≤ 999)
theorem okT.ends {t : NT} (h : okT t) : endsOK (NT.E t) (NT.fi t) (NT.se t) := fun e he => ⟨by have := (h.2.2.2.1 e he).1; have := h.2.1; omega, by have := (h.2.2.2.1 e he).2.1; have := h.2.1; omega, (h.2.2.2.1 e he).2.2.1⟩
theorem toInt64_toInt (x : Int32) : x.toInt64.toInt = x.toInt := Int32.toInt_toInt64 x
theorem steepS_b {kd rs : Int32} (h : kd ≠ 2 → 1 ≤ rs.toInt ∧ rs.toInt ≤ 20) {f : Int64} (hf : -(16777216 : Int) ≤ f.toInt ∧ f.toInt ≤ 16777216) : 1 ≤ (steepS kd rs f).toInt ∧ (steepS kd rs f).toInt ≤ 1073741824 := by
  unfold steepS
  split
  · rw [show (1 : Int64).toInt = 1 by decide +kernel]; omega
  · next hk =>
    have hr := h hk
    have e2 : (2 : Int64).toInt = 2 := by decide +kernel
    have e1 : (1 : Int64).toInt = 1 := by decide +kernel
    have e0 : (0 : Int64).toInt = 0 := by decide +kernel
    have ha : 0 ≤ (if f < 0 then -f else f).toInt ∧ (if f < 0 then -f else f).toInt ≤ 16777216 := by
      split
      · next hlt =>
        rw [fa_lt64, e0] at hlt
        have := neg_b (y := f) (B := 16777216) ⟨by omega, by omega⟩ (by omega)
        omega
      · next hlt => rw [fa_lt64, e0] at hlt; omega
    generalize (if f < 0 then -f else f) = a at ha
    have m1 := fb_mulL (x := 2) (y := a) (by rw [e2]; omega) (by rw [e2]; omega)
    rw [e2] at m1
    have m2 := fb_addL (x := 2 * a) (y := 1) (by rw [m1, e1]; omega) (by rw [m1, e1]; omega)
    rw [m1, e1] at m2
    have hr64 : rs.toInt64.toInt = rs.toInt := toInt64_toInt rs
    have b1 : 1 ≤ rs.toInt * (2 * a.toInt + 1) := by
      have : 1 * 1 ≤ rs.toInt * (2 * a.toInt + 1) := Int.mul_le_mul (by omega) (by omega) (by omega) (by omega)
      omega
    have b2 : rs.toInt * (2 * a.toInt + 1) ≤ 20 * 33554433 := Int.mul_le_mul (by omega) (by omega) (by omega) (by omega)
    have m3 := fb_mulL (x := rs.toInt64) (y := 2 * a + 1) (by rw [hr64, m2]; omega) (by rw [hr64, m2]; omega)
    rw [hr64, m2] at m3
    rw [m3]
    omega
theorem mul_b {x y : Int64} {A B : Int} (hA : 0 ≤ A) (hB : 0 ≤ B) (hx : -A ≤ x.toInt ∧ x.toInt ≤ A) (hy : -B ≤ y.toInt ∧ y.toInt ≤ B) (h : A * B < 9223372036854775808) : (x * y).toInt = x.toInt * y.toInt ∧ -(A * B) ≤ (x * y).toInt ∧ (x * y).toInt ≤ A * B := by
  have h1 : x.toInt * y.toInt ≤ A * B := by
    have := Int.natAbs_mul x.toInt y.toInt
    have a1 : x.toInt.natAbs ≤ A.natAbs := by omega
    have a2 : y.toInt.natAbs ≤ B.natAbs := by omega
    have a3 := Nat.mul_le_mul a1 a2
    have a4 := Int.natAbs_mul A B
    have a5 : 0 ≤ A * B := Int.mul_nonneg hA hB
    omega
  have h2 : -(A * B) ≤ x.toInt * y.toInt := by
    have := Int.natAbs_mul x.toInt y.toInt
    have a1 : x.toInt.natAbs ≤ A.natAbs := by omega
    have a2 : y.toInt.natAbs ≤ B.natAbs := by omega
    have a3 := Nat.mul_le_mul a1 a2
    have a4 := Int.natAbs_mul A B
    have a5 : 0 ≤ A * B := Int.mul_nonneg hA hB
    omega
  have e := fb_mulL (x := x) (y := y) (by omega) (by omega)
  rw [e]; exact ⟨rfl, h2, h1⟩
theorem kS_nat (f : Int64) : ∃ q : Nat, q < 2 ^ 63 ∧ kS f = lN q := by
  unfold kS
  split
  · exact ⟨0, by omega, by decide +kernel⟩
  · next hn =>
    obtain ⟨q, hq, rfl⟩ := pk_lOf (x := f) hn
    rw [show (10 : Int64) = lN 10 by decide +kernel, pk_lDiv hq (by omega) (by omega)]
    exact ⟨q / 10, by omega, rfl⟩
theorem kS_lt {f : Int64} {lc : Nat} (hl : lc ≤ 6) (hc : kS f < (nI lc).toInt64) : ∃ k : Nat, k < lc ∧ kS f = lN k ∧ (kS f).toInt32 = nI k ∧ (kS f).toInt32.toNatClampNeg = k := by
  obtain ⟨q, hq, e⟩ := kS_nat f
  rw [e, nI_l (by omega), pk_lLT hq (by omega)] at hc
  refine ⟨q, hc, e, ?_, ?_⟩
  · rw [e, lN_i]
  · rw [e, lN_i, nI_clamp (by omega)]
theorem lossS_b {kd rs : Int32} {lc : Nat} {lf : Nat → Int32} (h : kd ≠ 2 → 1 ≤ rs.toInt ∧ rs.toInt ≤ 20) (hl : lc ≤ 6) (hf6 : ∀ k, k < lc → 0 ≤ (lf k).toInt ∧ (lf k).toInt ≤ 300) {f : Int64} (hf : -(16777216 : Int) ≤ f.toInt ∧ f.toInt ≤ 16777216) : -(9007199254740992 : Int) ≤ (lossS kd rs (nI lc) lf f).toInt ∧ (lossS kd rs (nI lc) lf f).toInt ≤ 9007199254740992 := by
  have e0 : (0 : Int64).toInt = 0 := by decide +kernel
  unfold lossS
  split
  · have hb : 0 ≤ (liftS (nI lc) lf f).toInt ∧ (liftS (nI lc) lf f).toInt ≤ 30000 := by
      unfold liftS
      split
      · next hc =>
        obtain ⟨k, hk, -, -, e⟩ := kS_lt hl hc
        rw [e]
        have h3 := hf6 k hk
        have e100 : (100 : Int64).toInt = 100 := by decide +kernel
        have m := fb_mulL (x := 100) (y := (lf k).toInt64) (by rw [e100, toInt64_toInt]; omega) (by rw [e100, toInt64_toInt]; omega)
        rw [e100, toInt64_toInt] at m
        rw [m]; omega
      · rw [e0]; omega
    have := neg_b (y := liftS (nI lc) lf f) (B := 30000) ⟨by omega, by omega⟩ (by omega)
    omega
  · next hk =>
    have hr := h hk
    have hr64 : rs.toInt64.toInt = rs.toInt := toInt64_toInt rs
    have m1 := mul_b (x := rs.toInt64) (y := f) (A := 20) (B := 16777216) (by omega) (by omega) (by rw [hr64]; omega) hf (by omega)
    have m2 := mul_b (x := rs.toInt64 * f) (y := f) (A := 20 * 16777216) (B := 16777216) (by omega) (by omega) m1.2 hf (by omega)
    split
    · have := neg_b (y := rs.toInt64 * f * f) (B := 5629499534213120) ⟨by omega, by omega⟩ (by omega)
      omega
    · omega
theorem okT.ok {t : NT} (h : okT t) : okN (snOf t) := by
  refine ⟨h.2.2.1, h.ends, fun e he f hf => ?_, fun j => ?_, ?_⟩
  · have z := h.2.2.2.1 e he
    have a := steepS_b (kd := NT.kd t e) (rs := NT.rs t e) (fun q => z.2.2.2.2.1 q) (f := f) ⟨by omega, by omega⟩
    have b := lossS_b (kd := NT.kd t e) (rs := NT.rs t e) (lc := NT.lc t e) (lf := NT.lf t e) (fun q => z.2.2.2.2.1 q) z.2.2.2.2.2.1 z.2.2.2.2.2.2 (f := f) ⟨by omega, by omega⟩
    exact ⟨a.1, a.2, b.1, b.2⟩
  · show -(1000 : Int) ≤ (drT t j).toInt ∧ (drT t j).toInt ≤ 1000
    unfold drT
    split
    · next hj => rw [toInt64_toInt]; have := h.2.2.2.2.1 j hj; omega
    · rw [show (0 : Int64).toInt = 0 by decide +kernel]; omega
  · show 0 ≤ (100 * (NT.wh t).toInt64).toInt ∧ (100 * (NT.wh t).toInt64).toInt ≤ 100000
    have e100 : (100 : Int64).toInt = 100 := by decide +kernel
    have := h.2.2.2.2.2
    have m := fb_mulL (x := 100) (y := (NT.wh t).toInt64) (by rw [e100, toInt64_toInt]; omega) (by rw [e100, toInt64_toInt]; omega)
    rw [e100, toInt64_toInt] at m
    rw [m]; omega
theorem okT.tw {t : NT} (h : okT t) (sh : Int32) : TW (NT.E t) (NT.fi t) (NT.se t) (opS (snOf t) sh) (trS (snOf t) sh) := h.ok.tw sh
theorem okT.both {t : NT} (h : okT t) (sh : Int32) {e : Nat} (he : e < NT.E t) (ho : opS (snOf t) sh e = true) : (trS (snOf t) sh).2.2.2 (NT.fi t e) = true ↔ (trS (snOf t) sh).2.2.2 (NT.se t e) = true := h.ok.both sh he ho
/-- all that are met are joints of the net -/
theorem okT.met {t : NT} (h : okT t) (sh : Int32) {j : Nat} (hj : (trS (snOf t) sh).2.2.2 j = true) : j < NT.J t := by
  have tw := h.ok.tw sh
  obtain ⟨i, hi, rfl, z⟩ := tw.at hj
  by_cases h0 : 0 < i
  · obtain ⟨k, -, -, g1, -, -, g4⟩ := tw.up h.ok.2.1 h.ok.1 h0 hi
    have y := h.2.2.2.1 _ g1
    rcases g4 with g4 | g4
    · rw [← g4.1]; exact y.1
    · rw [← g4.1]; exact y.2.1
  · have : i = 0 := by omega
    subst this
    rw [tw.2.2.2.1.2]; exact h.1
/-- the class's Net at cell o holds a net -/
def NetC (h : PH) (o : Nat) (t : NT) : Prop := h.1 o 0 = nI (NT.J t) ∧ h.1 o 1 = nI (NT.E t) ∧ h.1 o 2 = NT.wh t ∧ h.1 o 3 = NT.cl t ∧ (∀ j, j < NT.J t → h.1 (o + 2) j = NT.dr t j ∧ h.1 (o + 3) j = NT.ht t j) ∧
  ∀ e, e < NT.E t → h.1 (o + 4) e = nI (NT.fi t e) ∧ h.1 (o + 5) e = nI (NT.se t e) ∧ h.1 (o + 6) e = NT.kd t e ∧ (NT.kd t e ≠ 2 → h.1 (o + 7) e = NT.rs t e) ∧ h.1 (o + 8) e = nI (NT.lc t e) ∧ ∀ k, k < NT.lc t e → h.1 (o + 9) (6 * e + k) = NT.lf t e k
theorem NetC.fr {S : Nat → Prop} {h h' : PH} {o : Nat} {t : NT} (c : NetC h o t) (f : Fr S h h') (hs : ∀ k, k < 10 → ¬ S (o + k)) : NetC h' o t := by
  have g : ∀ k, k < 10 → h'.1 (o + k) = h.1 (o + k) := fun k hk => (f _ (hs k hk)).1
  obtain ⟨c1, c2, c3, c4, c5, c6⟩ := c
  have g0 : h'.1 o = h.1 o := g 0 (by omega)
  refine ⟨by rw [g0]; exact c1, by rw [g0]; exact c2, by rw [g0]; exact c3, by rw [g0]; exact c4, fun j hj => ?_, fun e he => ?_⟩
  · rw [g 2 (by omega), g 3 (by omega)]; exact c5 j hj
  · rw [g 4 (by omega), g 5 (by omega), g 6 (by omega), g 7 (by omega), g 8 (by omega), g 9 (by omega)]; exact c6 e he
