/-! ===== the class's Tree at cell a holds a tree ===== -/
def TreeC (h : PH) (a : Nat) (fi se : Nat → Nat) (s : TS) : Prop :=
  (∀ i, i < 32 → bt (h.1 a 0) i = s.2.2.2 i) ∧ (∀ e, e < 32 → (bt (h.1 a 1) e = true ↔ ∃ i, 0 < i ∧ i < s.1 ∧ pe s (s.2.1 i) = e)) ∧ h.1 a 2 = nI s.1 ∧
  (∀ k, k < s.1 → h.1 (a + 1) k = nI (s.2.1 k)) ∧ (∀ j, j < 9 → h.1 (a + 3) j = s.2.2.1 j) ∧
  (∀ i, 0 < i → i < s.1 → h.1 (a + 2) (s.2.1 i) = nI (upj fi se s (s.2.1 i)) ∧ h.1 (a + 4) (s.2.1 i) = wD se s (s.2.1 i)) ∧
  (∀ i, i < s.1 → h.1 (a + 5) (s.2.1 i) = nI (dpj fi se s (s.2.1 i)))
theorem TreeC.fr {S : Nat → Prop} {h h' : PH} {a : Nat} {fi se : Nat → Nat} {s : TS} (c : TreeC h a fi se s) (f : Fr S h h') (hs : ∀ k, k < 6 → ¬ S (a + k)) : TreeC h' a fi se s := by
  have g : ∀ k, k < 6 → h'.1 (a + k) = h.1 (a + k) := fun k hk => (f _ (hs k hk)).1
  have g0 : h'.1 a = h.1 a := g 0 (by omega)
  unfold TreeC
  rw [g0, g 1 (by omega), g 2 (by omega), g 3 (by omega), g 4 (by omega), g 5 (by omega)]
  exact c
theorem dep_tg {E : Nat} {fi se : Nat → Nat} {op : Nat → Bool} {s s' : TS} (h : TW E fi se op s) (hE : endsOK E fi se) (hE14 : E ≤ 14) (g : TG s s') : ∀ (n i : Nat), i < s.1 → dep fi se s' n (s.2.1 i) = dep fi se s n (s.2.1 i)
  | 0, _, _ => rfl
  | n + 1, i, hi => by
    have hu : upj fi se s' (s.2.1 i) = upj fi se s (s.2.1 i) := by unfold upj pe; rw [(g.2.2 _ (h.1 i hi).2).2]
    by_cases h0 : s.2.1 i = 0
    · simp [dep, h0]
    · have hi0 : 0 < i := Nat.pos_of_ne_zero (fun z => h0 (by rw [z]; exact h.2.2.2.1.2))
      obtain ⟨k, hk, e, -⟩ := h.up hE hE14 hi0 hi
      simp only [dep, if_neg h0, hu, e, dep_tg h hE hE14 g n k (by omega)]
theorem bt_big_false {x : Int32} {e : Nat} (h : bt x e = true) : e < 32 := by
  rcases Nat.lt_or_ge e 32 with q | q
  · exact q
  · rw [b_big q] at h; cases h
theorem TreeC.push {E : Nat} {fi se : Nat → Nat} {op : Nat → Bool} {s : TS} {h h' : PH} {a e k : Nat} (tw : TW E fi se op s) (hE : endsOK E fi se) (hE14 : E ≤ 14) (c : TreeC h a fi se s) (he : e < E) (hk : k < s.1) (hc : (fi e = s.2.1 k ∨ se e = s.2.1 k) ∧ op e = true ∧ s.2.2.2 (oth fi se e (s.2.1 k)) = false)
    (g0 : h'.1 a 0 = h.1 a 0 ||| ((1 : Int32) <<< (nI (oth fi se e (s.2.1 k)) &&& 31))) (g1 : h'.1 a 1 = h.1 a 1 ||| ((1 : Int32) <<< (nI e &&& 31))) (g2 : h'.1 a 2 = nI (s.1 + 1))
    (g3 : ∀ j, h'.1 (a + 1) j = if j = s.1 then nI (oth fi se e (s.2.1 k)) else h.1 (a + 1) j) (g4 : ∀ j, h'.1 (a + 2) j = if j = oth fi se e (s.2.1 k) then nI (s.2.1 k) else h.1 (a + 2) j) (g5 : ∀ j, h'.1 (a + 3) j = if j = oth fi se e (s.2.1 k) then nI e else h.1 (a + 3) j)
    (g6 : ∀ j, h'.1 (a + 4) j = if j = oth fi se e (s.2.1 k) then (if se e = oth fi se e (s.2.1 k) then 1 else -1) else h.1 (a + 4) j) (g7 : ∀ j, h'.1 (a + 5) j = if j = oth fi se e (s.2.1 k) then h.1 (a + 5) (s.2.1 k) + 1 else h.1 (a + 5) j) : TreeC h' a fi se (spr1 fi se op (s.2.1 k) e s) := by
  have tw' := tw.step hE he hk
  have tg := TG.step fi se op (s.2.1 k) e s
  obtain ⟨c0, c1, c2, c3, c4, c5, c6⟩ := c
  have hs' : spr1 fi se op (s.2.1 k) e s = (s.1 + 1, fupd s.2.1 s.1 (oth fi se e (s.2.1 k)), fupd s.2.2.1 (oth fi se e (s.2.1 k)) (nI e), fun j => s.2.2.2 j || decide (j = oth fi se e (s.2.1 k))) := by unfold spr1; rw [if_pos hc]
  have hto : oth fi se e (s.2.1 k) < 9 := by have := hE e he; unfold oth; split <;> omega
  have hne : ∀ i, i < s.1 → s.2.1 i ≠ oth fi se e (s.2.1 k) := fun i hi q => by have := (tw.1 i hi).2; rw [q, hc.2.2] at this; cases this
  have hdep : ∀ i, i < s.1 → dpj fi se (spr1 fi se op (s.2.1 k) e s) (s.2.1 i) = dpj fi se s (s.2.1 i) := fun i hi => dep_tg tw hE hE14 tg 9 i hi
  have hold : ∀ i, i < s.1 → (spr1 fi se op (s.2.1 k) e s).2.1 i = s.2.1 i := tg.2.1
  have hpe : ∀ i, i < s.1 → pe (spr1 fi se op (s.2.1 k) e s) (s.2.1 i) = pe s (s.2.1 i) := fun i hi => by unfold pe; rw [(tg.2.2 _ (tw.1 i hi).2).2]
  have hnew : (spr1 fi se op (s.2.1 k) e s).2.1 s.1 = oth fi se e (s.2.1 k) := by rw [hs']; exact fupd_s
  have hpn : pe (spr1 fi se op (s.2.1 k) e s) (oth fi se e (s.2.1 k)) = e := by unfold pe; rw [hs']; show Int32.toNatClampNeg (fupd _ _ _ _) = e; rw [fupd_s]; exact nI_clamp (by omega)
  have hun : upj fi se (spr1 fi se op (s.2.1 k) e s) (oth fi se e (s.2.1 k)) = s.2.1 k := by
    unfold upj
    rw [hpn]
    have := oth_end (fi := fi) (se := se) hc.1
    have hn := (hE e he).2.2
    unfold oth at this ⊢
    rcases this with ⟨q1, q2⟩ | ⟨q1, q2⟩
    · rw [if_pos q1]; exact q2
    · by_cases q3 : fi e = s.2.1 k
      · rw [if_pos q3] at q1 ⊢
        rw [if_neg hn]; exact q3
      · exact absurd q2 q3
  have hc1 : (spr1 fi se op (s.2.1 k) e s).1 = s.1 + 1 := by rw [hs']
  refine ⟨fun i hi => ?_, fun e' he' => ?_, by rw [hc1]; exact g2, fun j hj => ?_, fun j hj => ?_, fun i h0 hi => ?_, fun i hi => ?_⟩
  · rw [g0, b_set _ (by omega) hi, c0 i hi, hs']
  · rw [g1, b_set _ (by omega) he', Bool.or_eq_true, c1 e' he', decide_eq_true_eq, hc1]
    constructor
    · rintro (⟨i, h0, hi, q⟩ | q)
      · exact ⟨i, h0, by omega, by rw [hold i hi, hpe i hi]; exact q⟩
      · exact ⟨s.1, tw.2.2.2.1.1, by omega, by rw [hnew, hpn]; exact q.symm⟩
    · rintro ⟨i, h0, hi, q⟩
      by_cases qi : i = s.1
      · right; rw [qi, hnew, hpn] at q; exact q.symm
      · left; rw [hold i (by omega), hpe i (by omega)] at q; exact ⟨i, h0, by omega, q⟩
  · rw [hc1] at hj
    rw [g3]
    by_cases q : j = s.1
    · rw [if_pos q, q, hnew]
    · rw [if_neg q, hold j (by omega)]; exact c3 j (by omega)
  · rw [g5, hs']
    show _ = fupd s.2.2.1 _ _ j
    by_cases q : j = oth fi se e (s.2.1 k)
    · rw [if_pos q, q, fupd_s]
    · rw [if_neg q, fupd_n q]; exact c4 j hj
  · rw [hc1] at hi
    by_cases q : i = s.1
    · rw [q, hnew, g4, g6, if_pos rfl, if_pos rfl, hun]
      refine ⟨rfl, ?_⟩
      unfold wD; rw [hpn]
    · have hi' : i < s.1 := by omega
      rw [hold i hi', g4, g6, if_neg (hne i hi'), if_neg (hne i hi')]
      have z := c5 i h0 hi'
      refine ⟨?_, ?_⟩
      · rw [z.1]; unfold upj; rw [hpe i hi']
      · rw [z.2]; unfold wD; rw [hpe i hi']
  · rw [hc1] at hi
    by_cases q : i = s.1
    · rw [q, hnew, g7, if_pos rfl, c6 k hk, nI_1]
      have := tw'.dp_up hE hE14 (i := s.1) tw.2.2.2.1.1 (by rw [hc1]; omega)
      rw [hnew, hun, hdep k hk] at this
      rw [this]
    · have hi' : i < s.1 := by omega
      rw [hold i hi', g7, if_neg (hne i hi'), c6 i hi', hdep i hi']
