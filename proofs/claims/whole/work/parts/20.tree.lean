/-! ===== the specification: THE TREE ===== -/
abbrev TS : Type := Nat × (Nat → Nat) × (Nat → Int32) × (Nat → Bool)
def fupd {α : Type} (f : Nat → α) (k : Nat) (x : α) : Nat → α := fun j => if j = k then x else f j
theorem fupd_s {α : Type} {f : Nat → α} {k : Nat} {x : α} : fupd f k x k = x := if_pos rfl
theorem fupd_n {α : Type} {f : Nat → α} {k j : Nat} {x : α} (h : j ≠ k) : fupd f k x j = f j := if_neg h
/-- the other end of an edge -/
def oth (fi se : Nat → Nat) (e x : Nat) : Nat := if fi e = x then se e else fi e
def spr1 (fi se : Nat → Nat) (op : Nat → Bool) (x e : Nat) (s : TS) : TS :=
  if (fi e = x ∨ se e = x) ∧ op e = true ∧ s.2.2.2 (oth fi se e x) = false then (s.1 + 1, fupd s.2.1 s.1 (oth fi se e x), fupd s.2.2.1 (oth fi se e x) (nI e), fun j => s.2.2.2 j || decide (j = oth fi se e x)) else s
def spr (fi se : Nat → Nat) (op : Nat → Bool) (x : Nat) : Nat → Nat → TS → TS
  | 0, _, s => s
  | m + 1, e, s => spr fi se op x m (e + 1) (spr1 fi se op x e s)
def bfs (E : Nat) (fi se : Nat → Nat) (op : Nat → Bool) : Nat → Nat → TS → TS
  | 0, _, s => s
  | n + 1, k, s => if k < s.1 then bfs E fi se op n (k + 1) (spr fi se op (s.2.1 k) E 0 s) else s
def ts0 : TS := (1, fun _ => 0, fun _ => -2, fun j => decide (j = 0))
def treeS (E : Nat) (fi se : Nat → Nat) (op : Nat → Bool) : TS := bfs E fi se op 9 0 ts0
/-- a net's edges join two unlike joints below 9 -/
def endsOK (E : Nat) (fi se : Nat → Nat) : Prop := ∀ e, e < E → fi e < 9 ∧ se e < 9 ∧ fi e ≠ se e
def TW (E : Nat) (fi se : Nat → Nat) (op : Nat → Bool) (s : TS) : Prop :=
  (∀ i, i < s.1 → s.2.1 i < 9 ∧ s.2.2.2 (s.2.1 i) = true) ∧ (∀ i j, i < s.1 → j < s.1 → s.2.1 i = s.2.1 j → i = j) ∧ (∀ j, s.2.2.2 j = true → ∃ i, i < s.1 ∧ s.2.1 i = j) ∧ (0 < s.1 ∧ s.2.1 0 = 0) ∧
  (∀ i, 0 < i → i < s.1 → ∃ e k, e < E ∧ k < i ∧ op e = true ∧ s.2.2.1 (s.2.1 i) = nI e ∧ ((fi e = s.2.1 i ∧ se e = s.2.1 k) ∨ (se e = s.2.1 i ∧ fi e = s.2.1 k))) ∧
  (∀ j, s.2.2.2 j = false → s.2.2.1 j = -2) ∧ s.2.2.1 0 = -2
theorem TW.le {E : Nat} {fi se : Nat → Nat} {op : Nat → Bool} {s : TS} (h : TW E fi se op s) : s.1 ≤ 9 :=
  fb_holes 9 s.1 s.2.1 (fun i hi => (h.1 i hi).1) (fun i j hij hj e => by have := h.2.1 i j (by omega) hj e; omega)
theorem TW.me0 {E : Nat} {fi se : Nat → Nat} {op : Nat → Bool} {s : TS} (h : TW E fi se op s) : s.2.2.2 0 = true := by
  have := (h.1 0 h.2.2.2.1.1).2
  rwa [h.2.2.2.1.2] at this
theorem TW.lt9 {E : Nat} {fi se : Nat → Nat} {op : Nat → Bool} {s : TS} (h : TW E fi se op s) {j : Nat} (hj : s.2.2.2 j = true) : j < 9 := by
  obtain ⟨i, hi, rfl⟩ := h.2.2.1 j hj
  exact (h.1 i hi).1
theorem TW0 (E : Nat) (fi se : Nat → Nat) (op : Nat → Bool) : TW E fi se op ts0 := by
  refine ⟨fun i hi => ⟨by simp [ts0], by simp [ts0]⟩, fun i j hi hj _ => by simp [ts0] at hi hj; omega, fun j hj => ⟨0, by simp [ts0], by simp [ts0] at hj ⊢; omega⟩, ⟨by simp [ts0], rfl⟩, fun i h0 hi => by simp [ts0] at hi; omega, fun j _ => rfl, rfl⟩
theorem oth_end {fi se : Nat → Nat} {e x : Nat} (h : fi e = x ∨ se e = x) : (fi e = oth fi se e x ∧ se e = x) ∨ (se e = oth fi se e x ∧ fi e = x) := by
  unfold oth
  split
  · next h1 => exact Or.inr ⟨rfl, h1⟩
  · next h1 => exact Or.inl ⟨rfl, h.resolve_left h1⟩
theorem TW.step {E : Nat} {fi se : Nat → Nat} {op : Nat → Bool} {s : TS} (h : TW E fi se op s) (hE : endsOK E fi se) {e k : Nat} (he : e < E) (hk : k < s.1) : TW E fi se op (spr1 fi se op (s.2.1 k) e s) := by
  unfold spr1
  split
  · next hc =>
    obtain ⟨c1, c2, c3⟩ := hc
    obtain ⟨A, B, C, D, F, G, G0⟩ := id h
    obtain ⟨f1, f2, f3⟩ := hE e he
    have hto : oth fi se e (s.2.1 k) < 9 := by unfold oth; split <;> assumption
    have hto0 : oth fi se e (s.2.1 k) ≠ 0 := fun q => by rw [q, h.me0] at c3; cases c3
    have hne : ∀ i, i < s.1 → s.2.1 i ≠ oth fi se e (s.2.1 k) := fun i hi q => by have := (A i hi).2; rw [q, c3] at this; cases this
    generalize hto' : oth fi se e (s.2.1 k) = to at *
    have hq : ∀ i, i < s.1 → fupd s.2.1 s.1 to i = s.2.1 i := fun i hi => fupd_n (by omega)
    refine ⟨fun i hi => ?_, fun i j hi hj q => ?_, fun j hj => ?_, ⟨by show 0 < s.1 + 1; omega, by show fupd s.2.1 s.1 to 0 = 0; rw [hq 0 D.1]; exact D.2⟩, fun i h0 hi => ?_, fun j hj => ?_, ?_⟩
    · show fupd s.2.1 s.1 to i < 9 ∧ (s.2.2.2 (fupd s.2.1 s.1 to i) || decide (fupd s.2.1 s.1 to i = to)) = true
      by_cases q : i = s.1
      · subst q; rw [fupd_s]; exact ⟨hto, by simp⟩
      · have hi : i < s.1 + 1 := hi
        rw [hq i (by omega)]; exact ⟨(A i (by omega)).1, by rw [(A i (by omega)).2]; rfl⟩
    · have hi : i < s.1 + 1 := hi
      have hj : j < s.1 + 1 := hj
      have q : fupd s.2.1 s.1 to i = fupd s.2.1 s.1 to j := q
      by_cases qi : i = s.1
      · by_cases qj : j = s.1
        · omega
        · rw [qi, fupd_s, hq j (by omega)] at q
          exact absurd q.symm (hne j (by omega))
      · by_cases qj : j = s.1
        · rw [qj, fupd_s, hq i (by omega)] at q
          exact absurd q (hne i (by omega))
        · rw [hq i (by omega), hq j (by omega)] at q
          exact B i j (by omega) (by omega) q
    · have hj : (s.2.2.2 j || decide (j = to)) = true := hj
      rw [Bool.or_eq_true] at hj
      rcases hj with hj | hj
      · obtain ⟨i, hi, q⟩ := C j hj
        exact ⟨i, by show i < s.1 + 1; omega, by show fupd s.2.1 s.1 to i = j; rw [hq i hi]; exact q⟩
      · refine ⟨s.1, by show s.1 < s.1 + 1; omega, ?_⟩
        show fupd s.2.1 s.1 to s.1 = j
        rw [fupd_s]; exact (of_decide_eq_true hj).symm
    · have hi : i < s.1 + 1 := hi
      show ∃ e' k', e' < E ∧ k' < i ∧ op e' = true ∧ fupd s.2.2.1 to (nI e) (fupd s.2.1 s.1 to i) = nI e' ∧ ((fi e' = fupd s.2.1 s.1 to i ∧ se e' = fupd s.2.1 s.1 to k') ∨ (se e' = fupd s.2.1 s.1 to i ∧ fi e' = fupd s.2.1 s.1 to k'))
      by_cases q : i = s.1
      · subst q
        refine ⟨e, k, he, hk, c2, by rw [fupd_s, fupd_s], ?_⟩
        rw [fupd_s, hq k hk]
        have := oth_end (fi := fi) (se := se) c1
        rw [hto'] at this
        exact this
      · obtain ⟨e', k', g1, g2, g3, g4, g5⟩ := F i h0 (by omega)
        refine ⟨e', k', g1, g2, g3, ?_, ?_⟩
        · rw [hq i (by omega), fupd_n (hne i (by omega))]; exact g4
        · rw [hq i (by omega), hq k' (by omega)]; exact g5
    · have hj : (s.2.2.2 j || decide (j = to)) = false := hj
      rw [Bool.or_eq_false_iff] at hj
      show fupd s.2.2.1 to (nI e) j = -2
      rw [fupd_n (of_decide_eq_false hj.2)]
      exact G j hj.1
    · show fupd s.2.2.1 to (nI e) 0 = -2
      rw [fupd_n (Ne.symm hto0)]; exact G0
  · exact h
/-- what is kept while more joints are met -/
def TG (s s' : TS) : Prop := s.1 ≤ s'.1 ∧ (∀ i, i < s.1 → s'.2.1 i = s.2.1 i) ∧ (∀ j, s.2.2.2 j = true → s'.2.2.2 j = true ∧ s'.2.2.1 j = s.2.2.1 j)
theorem TG.rf (s : TS) : TG s s := ⟨Nat.le_refl _, fun _ _ => rfl, fun _ h => ⟨h, rfl⟩⟩
theorem TG.tr {s t u : TS} (h : TG s t) (g : TG t u) : TG s u := ⟨Nat.le_trans h.1 g.1, fun i hi => (g.2.1 i (by have := h.1; omega)).trans (h.2.1 i hi), fun j hj => ⟨(g.2.2 j (h.2.2 j hj).1).1, (g.2.2 j (h.2.2 j hj).1).2.trans (h.2.2 j hj).2⟩⟩
theorem TG.step (fi se : Nat → Nat) (op : Nat → Bool) (x e : Nat) (s : TS) : TG s (spr1 fi se op x e s) := by
  unfold spr1
  split
  · next hc =>
    refine ⟨by show s.1 ≤ s.1 + 1; omega, fun i hi => fupd_n (by omega), fun j hj => ⟨by show (s.2.2.2 j || _) = true; rw [hj]; rfl, ?_⟩⟩
    show fupd s.2.2.1 _ _ j = _
    refine fupd_n (fun q => ?_)
    rw [q] at hj
    rw [hj] at hc
    exact absurd hc.2.2 (by decide)
  · exact TG.rf s
theorem spr1_cl {fi se : Nat → Nat} {op : Nat → Bool} {x e : Nat} {s : TS} (ho : op e = true) : (fi e = x → (spr1 fi se op x e s).2.2.2 (se e) = true) ∧ (se e = x → fi e ≠ se e → (spr1 fi se op x e s).2.2.2 (fi e) = true) := by
  have key : (fi e = x ∨ se e = x) → (spr1 fi se op x e s).2.2.2 (oth fi se e x) = true := by
    intro hx
    unfold spr1
    by_cases hm : s.2.2.2 (oth fi se e x) = false
    · rw [if_pos ⟨hx, ho, hm⟩]; show (s.2.2.2 _ || decide (_ = _)) = true; simp
    · rw [if_neg (fun q => hm q.2.2)]; simpa using hm
  refine ⟨fun h => ?_, fun h hn => ?_⟩
  · have := key (Or.inl h); unfold oth at this; rwa [if_pos h] at this
  · have := key (Or.inr h); unfold oth at this; rwa [if_neg (fun q => hn (q.trans h.symm))] at this
theorem spr_all {E : Nat} {fi se : Nat → Nat} {op : Nat → Bool} (hE : endsOK E fi se) {k : Nat} : ∀ (m e : Nat) (s : TS), e + m = E → TW E fi se op s → k < s.1 → TW E fi se op (spr fi se op (s.2.1 k) m e s) ∧ TG s (spr fi se op (s.2.1 k) m e s) ∧ ∀ e', e ≤ e' → e' < E → op e' = true → (fi e' = s.2.1 k → (spr fi se op (s.2.1 k) m e s).2.2.2 (se e') = true) ∧ (se e' = s.2.1 k → (spr fi se op (s.2.1 k) m e s).2.2.2 (fi e') = true)
  | 0, e, s, he, h, hk => ⟨h, TG.rf s, fun e' h1 h2 => by omega⟩
  | m + 1, e, s, he, h, hk => by
    have h1 := h.step hE (show e < E by omega) hk
    have g1 := TG.step fi se op (s.2.1 k) e s
    have hk1 : k < (spr1 fi se op (s.2.1 k) e s).1 := Nat.lt_of_lt_of_le hk g1.1
    have hx : (spr1 fi se op (s.2.1 k) e s).2.1 k = s.2.1 k := g1.2.1 k hk
    obtain ⟨a, b, c⟩ := spr_all hE m (e + 1) (spr1 fi se op (s.2.1 k) e s) (by omega) h1 hk1
    rw [hx] at a b c
    refine ⟨a, g1.tr b, fun e' l1 l2 ho => ?_⟩
    by_cases q : e' = e
    · subst q
      have z := spr1_cl (fi := fi) (se := se) (x := s.2.1 k) (s := s) ho
      exact ⟨fun hf => (b.2.2 _ (z.1 hf)).1, fun hf => (b.2.2 _ (z.2 hf (hE e' (by omega)).2.2)).1⟩
    · exact c e' (by omega) l2 ho
/-- along open edges nothing is left out -/
def TC (E : Nat) (fi se : Nat → Nat) (op : Nat → Bool) (k : Nat) (s : TS) : Prop := ∀ i, i < k → ∀ e, e < E → op e = true → (fi e = s.2.1 i → s.2.2.2 (se e) = true) ∧ (se e = s.2.1 i → s.2.2.2 (fi e) = true)
theorem bfs_all {E : Nat} {fi se : Nat → Nat} {op : Nat → Bool} (hE : endsOK E fi se) : ∀ (n k : Nat) (s : TS), k + n = 9 → k ≤ s.1 → TW E fi se op s → TC E fi se op k s → TW E fi se op (bfs E fi se op n k s) ∧ TC E fi se op (bfs E fi se op n k s).1 (bfs E fi se op n k s)
  | 0, k, s, hn, hk, h, c => ⟨h, fun i hi => c i (by have : i < s.1 := hi; have := h.le; omega)⟩
  | n + 1, k, s, hn, hk, h, c => by
    unfold bfs
    split
    · next hlt =>
      obtain ⟨a, b, d⟩ := spr_all hE (k := k) E 0 s (by omega) h hlt
      refine bfs_all hE n (k + 1) _ (by omega) (by have := b.1; omega) a (fun i hi e he ho => ?_)
      by_cases q : i = k
      · subst q
        rw [b.2.1 i hlt]
        exact d e (Nat.zero_le _) he ho
      · rw [b.2.1 i (by omega)]
        have z := c i (by omega) e he ho
        exact ⟨fun hf => (b.2.2 _ (z.1 hf)).1, fun hf => (b.2.2 _ (z.2 hf)).1⟩
    · next hlt => exact ⟨h, fun i hi => c i (by omega)⟩
theorem tree_ok {E : Nat} {fi se : Nat → Nat} {op : Nat → Bool} (hE : endsOK E fi se) : TW E fi se op (treeS E fi se op) ∧ ∀ e, e < E → op e = true → ((treeS E fi se op).2.2.2 (fi e) = true ↔ (treeS E fi se op).2.2.2 (se e) = true) := by
  obtain ⟨a, b⟩ := bfs_all (op := op) hE 9 0 ts0 (by omega) (by simp [ts0]) (TW0 E fi se op) (fun i hi => by omega)
  refine ⟨a, fun e he ho => ⟨fun h => ?_, fun h => ?_⟩⟩
  · obtain ⟨i, hi, q⟩ := a.2.2.1 _ h
    exact (b i hi e he ho).1 q.symm
  · obtain ⟨i, hi, q⟩ := a.2.2.1 _ h
    exact (b i hi e he ho).2 q.symm
