/-! ===== the specification: ways up THE TREE, RINGS ===== -/
def pe (s : TS) (j : Nat) : Nat := (s.2.2.1 j).toNatClampNeg
def upj (fi se : Nat → Nat) (s : TS) (j : Nat) : Nat := oth fi se (pe s j) j
def dep (fi se : Nat → Nat) (s : TS) : Nat → Nat → Nat
  | 0, _ => 0
  | n + 1, j => if j = 0 then 0 else dep fi se s n (upj fi se s j) + 1
def dpj (fi se : Nat → Nat) (s : TS) (j : Nat) : Nat := dep fi se s 9 j
def wU (fi : Nat → Nat) (s : TS) (a : Nat) : Int32 := if fi (pe s a) = a then 1 else -1
def wD (se : Nat → Nat) (s : TS) (b : Nat) : Int32 := if se (pe s b) = b then 1 else -1
def pth (fi se : Nat → Nat) (s : TS) : Nat → Nat → Nat → List (Nat × Int32) × List Nat
  | 0, _, _ => ([], [])
  | n + 1, a, b => if a = b then ([], []) else if dpj fi se s b ≤ dpj fi se s a then ((pe s a, wU fi s a) :: (pth fi se s n (upj fi se s a) b).1, (pth fi se s n (upj fi se s a) b).2) else ((pth fi se s n a (upj fi se s b)).1, b :: (pth fi se s n a (upj fi se s b)).2)
def PT (fi se : Nat → Nat) (s : TS) (a b : Nat) : List (Nat × Int32) × List Nat := pth fi se s 18 a b
def dnL (se : Nat → Nat) (s : TS) (d : List Nat) : List (Nat × Int32) := d.reverse.map fun b => (pe s b, wD se s b)
def ringOf (fi se : Nat → Nat) (s : TS) (e : Nat) : List (Nat × Int32) := (e, 1) :: ((PT fi se s (se e) (fi e)).1 ++ dnL se s (PT fi se s (se e) (fi e)).2)
def isTE (fi se : Nat → Nat) (s : TS) (e : Nat) : Bool := decide (s.2.2.1 (fi e) = nI e) || decide (s.2.2.1 (se e) = nI e)
def isRE (fi se : Nat → Nat) (op : Nat → Bool) (s : TS) (e : Nat) : Bool := op e && s.2.2.2 (fi e) && !isTE fi se s e
def ringsS (fi se : Nat → Nat) (op : Nat → Bool) (s : TS) (n : Nat) : List (List (Nat × Int32)) := (List.range n).filterMap fun e => if isRE fi se op s e then some (ringOf fi se s e) else none
theorem ringsS_succ (fi se : Nat → Nat) (op : Nat → Bool) (s : TS) (n : Nat) : ringsS fi se op s (n + 1) = ringsS fi se op s n ++ (if isRE fi se op s n then [ringOf fi se s n] else []) := by
  unfold ringsS
  rw [List.range_succ, List.filterMap_append]
  congr 1
  by_cases h : isRE fi se op s n = true <;> simp [h]
section TWR
variable {E : Nat} {fi se : Nat → Nat} {op : Nat → Bool} {s : TS}
/-- a joint that hangs: its edge, and the joint on which, met ahead of it -/
theorem TW.up (h : TW E fi se op s) (hE : endsOK E fi se) (hE14 : E ≤ 14) {i : Nat} (h0 : 0 < i) (hi : i < s.1) : ∃ k, k < i ∧ upj fi se s (s.2.1 i) = s.2.1 k ∧ pe s (s.2.1 i) < E ∧ s.2.2.1 (s.2.1 i) = nI (pe s (s.2.1 i)) ∧ op (pe s (s.2.1 i)) = true ∧ ((fi (pe s (s.2.1 i)) = s.2.1 i ∧ se (pe s (s.2.1 i)) = s.2.1 k) ∨ (se (pe s (s.2.1 i)) = s.2.1 i ∧ fi (pe s (s.2.1 i)) = s.2.1 k)) := by
  obtain ⟨e, k, g1, g2, g3, g4, g5⟩ := h.2.2.2.2.1 i h0 hi
  have hp : pe s (s.2.1 i) = e := by unfold pe; rw [g4]; exact nI_clamp (by omega)
  rw [hp]
  refine ⟨k, g2, ?_, g1, g4, g3, g5⟩
  unfold upj oth
  rw [hp]
  rcases g5 with ⟨a, b⟩ | ⟨a, b⟩
  · rw [if_pos a]; exact b
  · rw [if_neg (fun q => (hE e g1).2.2 (q.trans a.symm))]; exact b
theorem TW.dep_st (h : TW E fi se op s) (hE : endsOK E fi se) (hE14 : E ≤ 14) : ∀ (i : Nat), i < s.1 → ∀ n m, i ≤ n → i ≤ m → dep fi se s n (s.2.1 i) = dep fi se s m (s.2.1 i) := by
  intro i
  induction i using Nat.strongRecOn with
  | ind i ih =>
    intro hi n m hn hm
    by_cases h0 : i = 0
    · subst h0
      rw [h.2.2.2.1.2]
      cases n <;> cases m <;> simp [dep]
    · obtain ⟨k, hk, hu, -⟩ := h.up hE hE14 (Nat.pos_of_ne_zero h0) hi
      have hz : s.2.1 i ≠ 0 := fun q => h0 (h.2.1 i 0 hi h.2.2.2.1.1 (q.trans h.2.2.2.1.2.symm))
      obtain ⟨n', rfl⟩ : ∃ n', n = n' + 1 := ⟨n - 1, by omega⟩
      obtain ⟨m', rfl⟩ : ∃ m', m = m' + 1 := ⟨m - 1, by omega⟩
      simp only [dep, if_neg hz, hu]
      rw [ih k hk (by omega) n' m' (by omega) (by omega)]
theorem TW.dp0 : dpj fi se s 0 = 0 := by simp [dpj, dep]
theorem TW.dp_up (h : TW E fi se op s) (hE : endsOK E fi se) (hE14 : E ≤ 14) {i : Nat} (h0 : 0 < i) (hi : i < s.1) : dpj fi se s (s.2.1 i) = dpj fi se s (upj fi se s (s.2.1 i)) + 1 := by
  obtain ⟨k, hk, hu, -⟩ := h.up hE hE14 h0 hi
  have hz : s.2.1 i ≠ 0 := fun q => by have := h.2.1 i 0 hi h.2.2.2.1.1 (q.trans h.2.2.2.1.2.symm); omega
  have hl := h.le
  show dep fi se s 9 _ = dep fi se s 9 _ + 1
  rw [show dep fi se s 9 (s.2.1 i) = dep fi se s 8 (upj fi se s (s.2.1 i)) + 1 by simp [dep, hz], hu, h.dep_st hE hE14 k (by omega) 8 9 (by omega) (by omega)]
theorem TW.dp_le (h : TW E fi se op s) (hE : endsOK E fi se) (hE14 : E ≤ 14) : ∀ i, i < s.1 → dpj fi se s (s.2.1 i) ≤ i := by
  intro i
  induction i using Nat.strongRecOn with
  | ind i ih =>
    intro hi
    by_cases h0 : i = 0
    · subst h0; rw [h.2.2.2.1.2, TW.dp0]; exact Nat.le_refl _
    · obtain ⟨k, hk, hu, -⟩ := h.up hE hE14 (Nat.pos_of_ne_zero h0) hi
      rw [h.dp_up hE hE14 (Nat.pos_of_ne_zero h0) hi, hu]
      have := ih k hk (by omega)
      omega
/-- the place at which a met joint was met -/
theorem TW.at (h : TW E fi se op s) {j : Nat} (hj : s.2.2.2 j = true) : ∃ i, i < s.1 ∧ s.2.1 i = j ∧ (j ≠ 0 ↔ 0 < i) := by
  obtain ⟨i, hi, q⟩ := h.2.2.1 j hj
  refine ⟨i, hi, q, fun n => ?_, fun n z => ?_⟩
  · refine Nat.pos_of_ne_zero (fun z => n ?_)
    subst z; rw [← q]; exact h.2.2.2.1.2
  · have := h.2.1 i 0 hi h.2.2.2.1.1 (by rw [q, z]; exact h.2.2.2.1.2.symm)
    omega
theorem TW.upm (h : TW E fi se op s) (hE : endsOK E fi se) (hE14 : E ≤ 14) {j : Nat} (hj : s.2.2.2 j = true) (h0 : j ≠ 0) : s.2.2.2 (upj fi se s j) = true ∧ dpj fi se s j = dpj fi se s (upj fi se s j) + 1 ∧ pe s j < E ∧ s.2.2.1 j = nI (pe s j) ∧ op (pe s j) = true ∧ ((fi (pe s j) = j ∧ se (pe s j) = upj fi se s j) ∨ (se (pe s j) = j ∧ fi (pe s j) = upj fi se s j)) := by
  obtain ⟨i, hi, rfl, z⟩ := h.at hj
  obtain ⟨k, hk, hu, g1, g2, g3, g4⟩ := h.up hE hE14 (z.mp h0) hi
  refine ⟨by rw [hu]; exact (h.1 k (by omega)).2, h.dp_up hE hE14 (z.mp h0) hi, g1, g2, g3, by rw [hu]; exact g4⟩
theorem TW.dp_z (h : TW E fi se op s) (hE : endsOK E fi se) (hE14 : E ≤ 14) {j : Nat} (hj : s.2.2.2 j = true) (hd : dpj fi se s j = 0) : j = 0 := by
  by_cases h0 : j = 0
  · exact h0
  · have := (h.upm hE hE14 hj h0).2.1; omega
theorem TW.dp8 (h : TW E fi se op s) (hE : endsOK E fi se) (hE14 : E ≤ 14) {j : Nat} (hj : s.2.2.2 j = true) : dpj fi se s j ≤ 8 := by
  obtain ⟨i, hi, rfl, -⟩ := h.at hj
  have := h.dp_le hE hE14 i hi
  have := h.le
  omega
/-- two joints: the sum of the places at which they were met falls along the way -/
theorem pth_st (h : TW E fi se op s) (hE : endsOK E fi se) (hE14 : E ≤ 14) : ∀ (n i k : Nat), i < s.1 → k < s.1 → i + k < n → pth fi se s n (s.2.1 i) (s.2.1 k) = pth fi se s (n + 1) (s.2.1 i) (s.2.1 k)
  | 0, i, k, _, _, hn => by omega
  | n + 1, i, k, hi, hk, hn => by
    have e1 : ∀ m, pth fi se s (m + 1) (s.2.1 i) (s.2.1 k) = if s.2.1 i = s.2.1 k then ([], []) else if dpj fi se s (s.2.1 k) ≤ dpj fi se s (s.2.1 i) then ((pe s (s.2.1 i), wU fi s (s.2.1 i)) :: (pth fi se s m (upj fi se s (s.2.1 i)) (s.2.1 k)).1, (pth fi se s m (upj fi se s (s.2.1 i)) (s.2.1 k)).2) else ((pth fi se s m (s.2.1 i) (upj fi se s (s.2.1 k))).1, s.2.1 k :: (pth fi se s m (s.2.1 i) (upj fi se s (s.2.1 k))).2) := fun m => by simp only [pth]
    rw [e1 n, e1 (n + 1)]
    by_cases hab : s.2.1 i = s.2.1 k
    · rw [if_pos hab, if_pos hab]
    · rw [if_neg hab, if_neg hab]
      by_cases hd : dpj fi se s (s.2.1 k) ≤ dpj fi se s (s.2.1 i)
      · rw [if_pos hd, if_pos hd]
        have h0 : 0 < i := by
          refine Nat.pos_of_ne_zero (fun z => hab ?_)
          subst z
          rw [h.2.2.2.1.2, TW.dp0] at hd
          rw [h.2.2.2.1.2]
          exact (h.dp_z hE hE14 (h.1 k hk).2 (by omega)).symm
        obtain ⟨k', hk', hu, -⟩ := h.up hE hE14 h0 hi
        rw [hu, pth_st h hE hE14 n k' k (by omega) hk (by omega)]
      · rw [if_neg hd, if_neg hd]
        have h0 : 0 < k := by
          refine Nat.pos_of_ne_zero (fun z => hd ?_)
          subst z
          rw [h.2.2.2.1.2, TW.dp0]
          exact Nat.zero_le _
        obtain ⟨k', hk', hu, -⟩ := h.up hE hE14 h0 hk
        rw [hu, pth_st h hE hE14 n i k' hi (by omega) (by omega)]
theorem PT_eq (h : TW E fi se op s) (hE : endsOK E fi se) (hE14 : E ≤ 14) {a b : Nat} (ha : s.2.2.2 a = true) (hb : s.2.2.2 b = true) : PT fi se s a b = if a = b then ([], []) else if dpj fi se s b ≤ dpj fi se s a then ((pe s a, wU fi s a) :: (PT fi se s (upj fi se s a) b).1, (PT fi se s (upj fi se s a) b).2) else ((PT fi se s a (upj fi se s b)).1, b :: (PT fi se s a (upj fi se s b)).2) := by
  have hl := h.le
  show pth fi se s 18 a b = _
  rw [show pth fi se s 18 a b = if a = b then ([], []) else if dpj fi se s b ≤ dpj fi se s a then ((pe s a, wU fi s a) :: (pth fi se s 17 (upj fi se s a) b).1, (pth fi se s 17 (upj fi se s a) b).2) else ((pth fi se s 17 a (upj fi se s b)).1, b :: (pth fi se s 17 a (upj fi se s b)).2) by simp only [pth]]
  by_cases hab : a = b
  · rw [if_pos hab, if_pos hab]
  · rw [if_neg hab, if_neg hab]
    by_cases hd : dpj fi se s b ≤ dpj fi se s a
    · rw [if_pos hd, if_pos hd]
      have h0 : a ≠ 0 := fun z => hab (by subst z; rw [TW.dp0] at hd; exact (h.dp_z hE hE14 hb (by omega)).symm)
      obtain ⟨i, hi, e1, -⟩ := h.at (h.upm hE hE14 ha h0).1
      obtain ⟨k, hk, e2, -⟩ := h.at hb
      rw [← e1, ← e2, pth_st h hE hE14 17 i k hi hk (by omega)]
      rfl
    · rw [if_neg hd, if_neg hd]
      have h0 : b ≠ 0 := fun z => hd (by subst z; rw [TW.dp0]; exact Nat.zero_le _)
      obtain ⟨i, hi, e1, -⟩ := h.at ha
      obtain ⟨k, hk, e2, -⟩ := h.at (h.upm hE hE14 hb h0).1
      rw [← e1, ← e2, pth_st h hE hE14 17 i k hi hk (by omega)]
      rfl
theorem PT_step (h : TW E fi se op s) (hE : endsOK E fi se) (hE14 : E ≤ 14) {a b : Nat} (ha : s.2.2.2 a = true) (hb : s.2.2.2 b = true) (hab : a ≠ b) : (dpj fi se s b ≤ dpj fi se s a → a ≠ 0) ∧ (¬ dpj fi se s b ≤ dpj fi se s a → b ≠ 0) :=
  ⟨fun hd z => hab (by subst z; rw [TW.dp0] at hd; exact (h.dp_z hE hE14 hb (by omega)).symm), fun hd z => hd (by subst z; rw [TW.dp0]; exact Nat.zero_le _)⟩
/-- what stands above a joint, itself too -/
def anc (fi se : Nat → Nat) (s : TS) : Nat → Nat → Nat → Prop
  | 0, j, v => v = j
  | n + 1, j, v => v = j ∨ (j ≠ 0 ∧ anc fi se s n (upj fi se s j) v)
theorem anc_dp (h : TW E fi se op s) (hE : endsOK E fi se) (hE14 : E ≤ 14) : ∀ (n j v : Nat), s.2.2.2 j = true → anc fi se s n j v → v = j ∨ dpj fi se s v < dpj fi se s j
  | 0, j, v, _, a => Or.inl a
  | n + 1, j, v, hj, a => by
    rcases a with a | ⟨h0, a⟩
    · exact Or.inl a
    · have u := h.upm hE hE14 hj h0
      rcases anc_dp h hE hE14 n _ v u.1 a with q | q
      · right; rw [q, u.2.1]; omega
      · right; omega
theorem nodup_le9 {V : List Nat} (hn : V.Nodup) (h9 : ∀ v ∈ V, v < 9) : V.length ≤ 9 := by
  refine fb_holes 9 V.length (fun i => V.getD i 0) (fun i hi => ?_) (fun i j hij hj e => ?_)
  · show V.getD i 0 < 9
    rw [List.getD_eq_getElem?_getD, List.getElem?_eq_getElem hi]
    exact h9 _ (List.getElem_mem hi)
  · have hi : i < V.length := by omega
    simp only [List.getD_eq_getElem?_getD, List.getElem?_eq_getElem hi, List.getElem?_eq_getElem hj, Option.getD_some] at e
    exact (List.pairwise_iff_getElem.mp hn i j hi hj hij) e
theorem pth_len (h : TW E fi se op s) (hE : endsOK E fi se) (hE14 : E ≤ 14) : ∀ (n a b : Nat) (V : List Nat), s.2.2.2 a = true → s.2.2.2 b = true → V.Nodup → (∀ v ∈ V, v < 9 ∧ (∀ m, ¬ anc fi se s m a v) ∧ (∀ m, ¬ anc fi se s m b v)) → V.length + ((pth fi se s n a b).1.length + (pth fi se s n a b).2.length) + 1 ≤ 9
  | 0, a, b, V, ha, hb, hn, hv => by
    have : (V ++ [a]).length ≤ 9 := nodup_le9 (List.nodup_append.mpr ⟨hn, by simp, fun x hx y hy => by simp at hy; subst hy; intro q; subst q; exact (hv x hx).2.1 0 rfl⟩) (fun v hq => by
      rcases List.mem_append.mp hq with q | q
      · exact (hv v q).1
      · simp at q; subst q; exact h.lt9 ha)
    simp [pth] at this ⊢; omega
  | n + 1, a, b, V, ha, hb, hn, hv => by
    have hVa : (V ++ [a]).Nodup := List.nodup_append.mpr ⟨hn, by simp, fun x hx y hy => by simp at hy; subst hy; intro q; subst q; exact (hv x hx).2.1 0 rfl⟩
    have hVb : (V ++ [b]).Nodup := List.nodup_append.mpr ⟨hn, by simp, fun x hx y hy => by simp at hy; subst hy; intro q; subst q; exact (hv x hx).2.2 0 rfl⟩
    by_cases hab : a = b
    · have : (V ++ [a]).length ≤ 9 := nodup_le9 hVa (fun v hq => by
        rcases List.mem_append.mp hq with q | q
        · exact (hv v q).1
        · simp at q; subst q; exact h.lt9 ha)
      simp [pth, hab] at this ⊢; omega
    · have hs := PT_step h hE hE14 ha hb hab
      by_cases hd : dpj fi se s b ≤ dpj fi se s a
      · have u := h.upm hE hE14 ha (hs.1 hd)
        have := pth_len h hE hE14 n (upj fi se s a) b (V ++ [a]) u.1 hb hVa (fun v hq => by
          rcases List.mem_append.mp hq with q | q
          · exact ⟨(hv v q).1, fun m z => (hv v q).2.1 (m + 1) (Or.inr ⟨hs.1 hd, z⟩), (hv v q).2.2⟩
          · simp at q; subst q
            refine ⟨h.lt9 ha, fun m z => ?_, fun m z => ?_⟩
            · rcases anc_dp h hE hE14 m _ _ u.1 z with q | q
              · have h1 := u.2.1; rw [← q] at h1; omega
              · omega
            · rcases anc_dp h hE hE14 m _ _ hb z with q | q
              · exact hab q
              · omega)
        simp only [pth, if_neg hab, if_pos hd, List.length_cons]
        simp at this; omega
      · have u := h.upm hE hE14 hb (hs.2 hd)
        have := pth_len h hE hE14 n a (upj fi se s b) (V ++ [b]) ha u.1 hVb (fun v hq => by
          rcases List.mem_append.mp hq with q | q
          · exact ⟨(hv v q).1, (hv v q).2.1, fun m z => (hv v q).2.2 (m + 1) (Or.inr ⟨hs.2 hd, z⟩)⟩
          · simp at q; subst q
            refine ⟨h.lt9 hb, fun m z => ?_, fun m z => ?_⟩
            · rcases anc_dp h hE hE14 m _ _ ha z with q | q
              · exact hab q.symm
              · omega
            · rcases anc_dp h hE hE14 m _ _ u.1 z with q | q
              · have h1 := u.2.1; rw [← q] at h1; omega
              · omega)
        simp only [pth, if_neg hab, if_neg hd, List.length_cons]
        simp at this; omega
theorem PT_len (h : TW E fi se op s) (hE : endsOK E fi se) (hE14 : E ≤ 14) {a b : Nat} (ha : s.2.2.2 a = true) (hb : s.2.2.2 b = true) : (PT fi se s a b).1.length + (PT fi se s a b).2.length ≤ 8 := by
  have := pth_len h hE hE14 18 a b [] ha hb List.nodup_nil (fun v hv => by simp at hv)
  simp at this
  show (pth fi se s 18 a b).1.length + (pth fi se s 18 a b).2.length ≤ 8
  omega
/-- every edge of a way is an edge of the net, every way 1 or -1; those downwards are met joints -/
theorem pth_mem (h : TW E fi se op s) (hE : endsOK E fi se) (hE14 : E ≤ 14) : ∀ (n a b : Nat), s.2.2.2 a = true → s.2.2.2 b = true → (∀ q ∈ (pth fi se s n a b).1, q.1 < E ∧ (q.2 = 1 ∨ q.2 = -1) ∧ op q.1 = true ∧ s.2.2.2 (fi q.1) = true) ∧ (∀ v ∈ (pth fi se s n a b).2, s.2.2.2 v = true ∧ v ≠ 0)
  | 0, a, b, _, _ => by simp [pth]
  | n + 1, a, b, ha, hb => by
    by_cases hab : a = b
    · simp [pth, hab]
    · have hs := PT_step h hE hE14 ha hb hab
      by_cases hd : dpj fi se s b ≤ dpj fi se s a
      · have u := h.upm hE hE14 ha (hs.1 hd)
        have ih := pth_mem h hE hE14 n (upj fi se s a) b u.1 hb
        simp only [pth, if_neg hab, if_pos hd]
        refine ⟨fun q hq => ?_, ih.2⟩
        rcases List.mem_cons.mp hq with rfl | hq
        · exact ⟨u.2.2.1, by unfold wU; split <;> simp, u.2.2.2.2.1, u.2.2.2.2.2.elim (fun z => z.1.symm ▸ ha) (fun z => z.2.symm ▸ u.1)⟩
        · exact ih.1 q hq
      · have u := h.upm hE hE14 hb (hs.2 hd)
        have ih := pth_mem h hE hE14 n a (upj fi se s b) ha u.1
        simp only [pth, if_neg hab, if_neg hd]
        refine ⟨ih.1, fun v hv => ?_⟩
        rcases List.mem_cons.mp hv with rfl | hv
        · exact ⟨hb, hs.2 hd⟩
        · exact ih.2 v hv
theorem ring_ok (h : TW E fi se op s) (hE : endsOK E fi se) (hE14 : E ≤ 14) {e : Nat} (he : e < E) (hop : op e = true) (h1 : s.2.2.2 (fi e) = true) (h2 : s.2.2.2 (se e) = true) : (ringOf fi se s e).length ≤ 9 ∧ ∀ q ∈ ringOf fi se s e, q.1 < E ∧ (q.2 = 1 ∨ q.2 = -1) ∧ op q.1 = true ∧ s.2.2.2 (fi q.1) = true := by
  have hl := PT_len h hE hE14 h2 h1
  have hm : _ ∧ _ := pth_mem h hE hE14 18 (se e) (fi e) h2 h1
  refine ⟨by simp [ringOf, dnL]; omega, fun q hq => ?_⟩
  rcases List.mem_cons.mp hq with rfl | hq
  · exact ⟨he, Or.inl rfl, hop, h1⟩
  · rcases List.mem_append.mp hq with hq | hq
    · exact hm.1 q hq
    · obtain ⟨v, hv, rfl⟩ := List.mem_map.mp hq
      have z := hm.2 v (List.mem_reverse.mp hv)
      have u := h.upm hE hE14 z.1 z.2
      exact ⟨u.2.2.1, by show wD se s v = 1 ∨ wD se s v = -1; unfold wD; split <;> simp, u.2.2.2.2.1, u.2.2.2.2.2.elim (fun y => y.1.symm ▸ z.1) (fun y => y.2.symm ▸ u.1)⟩
end TWR
