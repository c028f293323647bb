/-! ===== the class's Rings at cell r ===== -/
def gq (L : RG) (i : Nat) : Nat × Int32 := L.getD i (0, 0)
theorem gq_l {L : RG} {x : Nat × Int32} {i : Nat} (h : i < L.length) : gq (L ++ [x]) i = gq L i := by
  unfold gq; rw [List.getD_eq_getElem?_getD, List.getD_eq_getElem?_getD, List.getElem?_append_left h]
theorem gq_r {L : RG} {x : Nat × Int32} : gq (L ++ [x]) L.length = x := by
  unfold gq; simp [List.getD_eq_getElem?_getD]
def RAt (h : PH) (r c : Nat) (L : RG) : Prop := h.1 (r + 1) c = nI L.length ∧ ∀ i, i < L.length → h.1 (r + 2) (9 * c + i) = nI (gq L i).1 ∧ h.1 (r + 3) (9 * c + i) = (gq L i).2
def RKp (h h' : PH) (r c : Nat) : Prop := h'.1 r = h.1 r ∧ (∀ k, k ≠ c → h'.1 (r + 1) k = h.1 (r + 1) k) ∧ ∀ j, (j < 9 * c ∨ 9 * c + 9 ≤ j) → h'.1 (r + 2) j = h.1 (r + 2) j ∧ h'.1 (r + 3) j = h.1 (r + 3) j
theorem RKp.rf {h : PH} {r c : Nat} : RKp h h r c := ⟨rfl, fun _ _ => rfl, fun _ _ => ⟨rfl, rfl⟩⟩
theorem RKp.tr {h h' h'' : PH} {r c : Nat} (a : RKp h h' r c) (b : RKp h' h'' r c) : RKp h h'' r c := ⟨b.1.trans a.1, fun k hk => (b.2.1 k hk).trans (a.2.1 k hk), fun j hj => ⟨(b.2.2 j hj).1.trans (a.2.2 j hj).1, (b.2.2 j hj).2.trans (a.2.2 j hj).2⟩⟩
theorem RAt.keep {h h' : PH} {r c k : Nat} {L : RG} (a : RAt h r k L) (b : RKp h h' r c) (hk : k ≠ c) (hl : L.length ≤ 9) : RAt h' r k L := by
  refine ⟨by rw [b.2.1 k hk]; exact a.1, fun i hi => ?_⟩
  have := b.2.2 (9 * k + i) (by omega)
  rw [this.1, this.2]; exact a.2 i hi
def rgR (r : Nat) : Nat → Prop := fun y => r ≤ y ∧ y < r + 5
theorem rgR_i {r i : Nat} (h : i < 5) : rgR r (r + i) := ⟨by omega, by omega⟩
theorem rgR_0 {r : Nat} : rgR r r := ⟨by omega, by omega⟩
def RingsC (h : PH) (r : Nat) (R : List RG) : Prop := h.1 r 0 = nI R.length ∧ ∀ k, k < R.length → RAt h r k (R.getD k [])
theorem RAt.fr {S : Nat → Prop} {h h' : PH} {r k : Nat} {L : RG} (a : RAt h r k L) (f : Fr S h h') (hs : ∀ i, i < 5 → ¬ S (r + i)) : RAt h' r k L := by
  unfold RAt
  rw [(f _ (hs 1 (by omega))).1, (f _ (hs 2 (by omega))).1, (f _ (hs 3 (by omega))).1]
  exact a
theorem RingsC.fr {S : Nat → Prop} {h h' : PH} {r : Nat} {R : List RG} (a : RingsC h r R) (f : Fr S h h') (hs : ∀ i, i < 5 → ¬ S (r + i)) : RingsC h' r R := by
  have g0 : h'.1 r = h.1 r := (f _ (hs 0 (by omega))).1
  exact ⟨by rw [g0]; exact a.1, fun k hk => (a.2 k hk).fr f hs⟩
theorem tr_apart {a r : Nat} (hT : isT a) (hR : isR r) (j : Nat) (hj : j < 6) : ¬ rgR r (a + j) := by
  intro q
  have h1 := q.1
  have h2 := q.2
  rcases hT with rfl | rfl <;> rcases hR with rfl | rfl <;> omega
theorem nr_apart {o r : Nat} (hN : isN o) (hR : isR r) (j : Nat) (hj : j < 10) : ¬ rgR r (o + j) := by
  intro q
  have h1 := q.1
  have h2 := q.2
  rcases hN with rfl | rfl | rfl <;> rcases hR with rfl | rfl <;> omega
section TCA
variable {E : Nat} {fi se : Nat → Nat} {op : Nat → Bool} {s : TS}
theorem TreeC.at {h : PH} {a : Nat} (tc : TreeC h a fi se s) (tw : TW E fi se op s) (hE : endsOK E fi se) (hE14 : E ≤ 14) {j : Nat} (hj : s.2.2.2 j = true) (h0 : j ≠ 0) : h.1 (a + 3) j = nI (pe s j) ∧ h.1 (a + 2) j = nI (upj fi se s j) ∧ h.1 (a + 4) j = wD se s j := by
  obtain ⟨i, hi, rfl, z⟩ := tw.at hj
  have u := tw.upm hE hE14 hj h0
  refine ⟨by rw [tc.2.2.2.2.1 _ (tw.lt9 hj)]; exact u.2.2.2.1, (tc.2.2.2.2.2.1 i (z.mp h0) hi).1, (tc.2.2.2.2.2.1 i (z.mp h0) hi).2⟩
theorem TreeC.dp {h : PH} {a : Nat} (tc : TreeC h a fi se s) (tw : TW E fi se op s) {j : Nat} (hj : s.2.2.2 j = true) : h.1 (a + 5) j = nI (dpj fi se s j) := by
  obtain ⟨i, hi, rfl, -⟩ := tw.at hj
  exact tc.2.2.2.2.2.2 i hi
theorem TW.wUD (tw : TW E fi se op s) (hE : endsOK E fi se) (hE14 : E ≤ 14) {j : Nat} (hj : s.2.2.2 j = true) (h0 : j ≠ 0) : -(wD se s j) = wU fi s j := by
  have u := tw.upm hE hE14 hj h0
  have hn := (hE _ u.2.2.1).2.2
  unfold wD wU
  rcases u.2.2.2.2.2 with z | z
  · rw [if_pos z.1, if_neg (fun q => hn (z.1.trans q.symm))]; decide
  · rw [if_pos z.1, if_neg (fun q => hn (q.trans z.1.symm))]
end TCA
theorem dnL_take {se : Nat → Nat} {s : TS} {d : List Nat} {n : Nat} (h : n < d.length) : dnL se s (d.take (n + 1)) = (pe s (d.getD n 0), wD se s (d.getD n 0)) :: dnL se s (d.take n) := by
  have e : d.take (n + 1) = d.take n ++ [d.getD n 0] := by
    rw [List.getD_eq_getElem?_getD, List.getElem?_eq_getElem h]
    exact (List.take_append_getElem h).symm
  unfold dnL
  rw [e, List.reverse_append]
  rfl
