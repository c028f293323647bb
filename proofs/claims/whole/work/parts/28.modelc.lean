/-! ===== the reference's cells: what they hold, what stays ===== -/
def FM (S F : Nat → Prop) (h h' : PH) : Prop := (∀ k, ¬ F k → h'.1 74 k = h.1 74 k) ∧ (∀ y, y ≠ 74 → ¬ S y → h'.1 y = h.1 y ∧ h'.2 y = h.2 y) ∧ (¬ F 48 → h'.2 74 = h.2 74)
theorem FM.rf {S F : Nat → Prop} {h : PH} : FM S F h h := ⟨fun _ _ => rfl, fun _ _ _ => ⟨rfl, rfl⟩, fun _ => rfl⟩
theorem FM.tr {S F : Nat → Prop} {h h' h'' : PH} (a : FM S F h h') (b : FM S F h' h'') : FM S F h h'' := ⟨fun k hk => (b.1 k hk).trans (a.1 k hk), fun y h1 h2 => ⟨(b.2.1 y h1 h2).1.trans (a.2.1 y h1 h2).1, (b.2.1 y h1 h2).2.trans (a.2.1 y h1 h2).2⟩, fun q => (b.2.2 q).trans (a.2.2 q)⟩
theorem FM.wk {S F S' F' : Nat → Prop} {h h' : PH} (a : FM S F h h') (hs : ∀ x, S x → S' x) (hf : ∀ x, F x → F' x) : FM S' F' h h' := ⟨fun k hk => a.1 k (fun q => hk (hf k q)), fun y h1 h2 => a.2.1 y h1 (fun q => h2 (hs y q)), fun q => a.2.2 (fun z => q (hf 48 z))⟩
theorem FM.pF {S F : Nat → Prop} {h h' : PH} (a : FM S F h h') {k : Nat} {x : Int32} (hk : F k) : FM S F h (pI h' 74 k x) := ⟨fun j hj => (pI_ne 74 j (Or.inr (fun q => hj (q ▸ hk)))).trans (a.1 j hj), fun y h1 h2 => ⟨(funext fun j => pI_ne y j (Or.inl h1)).trans (a.2.1 y h1 h2).1, (a.2.1 y h1 h2).2⟩, a.2.2⟩
theorem FM.pI {S F : Nat → Prop} {h h' : PH} (a : FM S F h h') {o k : Nat} {x : Int32} (h0 : o ≠ 74) (ho : S o) : FM S F h (pI h' o k x) := ⟨fun j hj => (pI_ne 74 j (Or.inl (Ne.symm h0))).trans (a.1 j hj), fun y h1 h2 => ⟨(funext fun j => pI_ne y j (Or.inl (fun q => h2 (q ▸ ho)))).trans (a.2.1 y h1 h2).1, (a.2.1 y h1 h2).2⟩, a.2.2⟩
theorem FM.pL {S F : Nat → Prop} {h h' : PH} (a : FM S F h h') {o k : Nat} {x : Int64} (ho : S o) (h0 : o ≠ 74 := by decide) : FM S F h (pL h' o k x) := ⟨a.1, fun y h1 h2 => ⟨(a.2.1 y h1 h2).1, (funext fun j => pL_ne y j (Or.inl (fun q => h2 (q ▸ ho)))).trans (a.2.1 y h1 h2).2⟩, fun q => (funext fun j => pL_ne 74 j (Or.inl (Ne.symm h0))).trans (a.2.2 q)⟩
theorem fm_pW {S F : Nat → Prop} {h h' : PH} (a : FM S F h h') {k : Nat} {x : Int64} (hF : F 48) : FM S F h (pL h' 74 k x) := ⟨a.1, fun y h1 h2 => ⟨(a.2.1 y h1 h2).1, (funext fun j => pL_ne y j (Or.inl h1)).trans (a.2.1 y h1 h2).2⟩, fun q => absurd hF q⟩
def drE (h : PH) (j : Nat) : Int32 := h.1 76 j * h.1 74 46 / 100 + (if nI j = h.1 74 44 then h.1 74 45 else 0)
/-- the reference holds a net, with draws as they are on paper -/
def NetM (h : PH) (t : NT) : Prop := h.1 74 6 = nI (NT.J t) ∧ h.1 74 7 = nI (NT.E t) ∧ h.1 76 0 = NT.wh t ∧ h.1 74 17 = NT.cl t ∧ (∀ j, 0 < j → j < NT.J t → drE h j = NT.dr t j) ∧ (∀ j, j < NT.J t → h.1 77 j = NT.ht t j) ∧
  ∀ e, e < NT.E t → h.1 79 e = nI (NT.fi t e) ∧ h.1 80 e = nI (NT.se t e) ∧ h.1 81 e = NT.kd t e ∧ (NT.kd t e ≠ 2 → h.1 82 e = NT.rs t e) ∧ h.1 84 e = nI (NT.lc t e) ∧ ∀ k, k < NT.lc t e → h.1 83 (6 * e + k) = NT.lf t e k
/-- the solver's own fields and cells -/
def slF : Nat → Prop := fun k => k = 28 ∨ k = 29 ∨ k = 32 ∨ k = 34 ∨ k = 39 ∨ k = 40 ∨ k = 41
def slS : Nat → Prop := fun y => 85 ≤ y ∧ y < 94
theorem NetM.fm {h h' : PH} {t : NT} (c : NetM h t) (f : FM slS slF h h') : NetM h' t := by
  have g : ∀ k, ¬ slF k → h'.1 74 k = h.1 74 k := f.1
  have a : ∀ y, y ≠ 74 → ¬ slS y → h'.1 y = h.1 y := fun y h1 h2 => (f.2.1 y h1 h2).1
  have n85 : ∀ y, y < 85 → ¬ slS y := fun y hy q => by have := q.1; omega
  have nf : ∀ k, k < 28 ∨ 41 < k → ¬ slF k := fun k hk q => by unfold slF at q; omega
  unfold NetM drE
  rw [g 6 (nf _ (by omega)), g 7 (nf _ (by omega)), g 17 (nf _ (by omega)), g 44 (nf _ (by omega)), g 45 (nf _ (by omega)), g 46 (nf _ (by omega)), a 76 (by omega) (n85 _ (by omega)), a 77 (by omega) (n85 _ (by omega)), a 79 (by omega) (n85 _ (by omega)), a 80 (by omega) (n85 _ (by omega)), a 81 (by omega) (n85 _ (by omega)), a 82 (by omega) (n85 _ (by omega)), a 83 (by omega) (n85 _ (by omega)), a 84 (by omega) (n85 _ (by omega))]
  exact c
def TreeM (h : PH) (s : TS) : Prop := (∀ i, i < 32 → bt (h.1 74 29) i = s.2.2.2 i) ∧ h.1 74 32 = nI s.1 ∧ (∀ k, k < s.1 → h.1 86 k = nI (s.2.1 k)) ∧ ∀ j, j < 9 → h.1 85 j = s.2.2.1 j
def RAtM (h : PH) (c : Nat) (L : RG) : Prop := h.1 90 c = nI L.length ∧ ∀ i, i < L.length → h.1 88 (14 * c + i) = nI (gq L i).1 ∧ h.1 89 (14 * c + i) = (gq L i).2
def RingsM (h : PH) (R : List RG) : Prop := h.1 74 34 = nI R.length ∧ ∀ k, k < R.length → RAtM h k (R.getD k [])
theorem TreeM.ext {h h' : PH} {s : TS} (c : TreeM h s) (h1 : h'.1 74 29 = h.1 74 29) (h2 : h'.1 74 32 = h.1 74 32) (h3 : h'.1 85 = h.1 85) (h4 : h'.1 86 = h.1 86) : TreeM h' s := by unfold TreeM; rw [h1, h2, h3, h4]; exact c
theorem RAtM.ext {h h' : PH} {c : Nat} {L : RG} (a : RAtM h c L) (h1 : h'.1 88 = h.1 88) (h2 : h'.1 89 = h.1 89) (h3 : h'.1 90 = h.1 90) : RAtM h' c L := by unfold RAtM; rw [h1, h2, h3]; exact a
theorem RingsM.ext {h h' : PH} {R : List RG} (a : RingsM h R) (h0 : h'.1 74 34 = h.1 74 34) (h1 : h'.1 88 = h.1 88) (h2 : h'.1 89 = h.1 89) (h3 : h'.1 90 = h.1 90) : RingsM h' R := ⟨by rw [h0]; exact a.1, fun k hk => (a.2 k hk).ext h1 h2 h3⟩
section TMA
variable {E : Nat} {fi se : Nat → Nat} {op : Nat → Bool} {s : TS}
theorem TreeM.at {h : PH} (tc : TreeM h s) (tw : TW E fi se op s) (hE : endsOK E fi se) (hE14 : E ≤ 14) {j : Nat} (hj : s.2.2.2 j = true) (h0 : j ≠ 0) : h.1 85 j = nI (pe s j) := by
  rw [tc.2.2.2 _ (tw.lt9 hj)]; exact (tw.upm hE hE14 hj h0).2.2.2.1
end TMA
