/-! ===== the class: Arrays.fill, Tree ===== -/
theorem pA_snoc (h : PH) (a i : Nat) (x : Int32) : pI (pA h a (fun k => if k < i then x else h.1 a k)) a i x = pA h a (fun k => if k < i + 1 then x else h.1 a k) := by
  refine ph_ext (fun b k => ?_) (fun b k => rfl)
  simp only [pI_1, pA_1]
  by_cases q1 : b = a
  · subst q1
    by_cases q2 : k = i
    · subst q2; simp
    · have : (k < i + 1) ↔ k < i := by omega
      simp [q2, this]
  · simp [q1]
theorem pB_snoc (h : PH) (a i : Nat) (x : Int64) : pL (pB h a (fun k => if k < i then x else h.2 a k)) a i x = pB h a (fun k => if k < i + 1 then x else h.2 a k) := by
  refine ph_ext (fun b k => rfl) (fun b k => ?_)
  simp only [pL_2, pB_2]
  by_cases q1 : b = a
  · subst q1
    by_cases q2 : k = i
    · subst q2; simp
    · have : (k < i + 1) ↔ k < i := by omega
      simp [q2, this]
  · simp [q1]
theorem pA_nil (h : PH) (a : Nat) (x : Int32) : pA h a (fun k => if k < 0 then x else h.1 a k) = h := by
  refine ph_ext (fun b k => ?_) (fun b k => rfl)
  simp only [pA_1]
  by_cases q : b = a
  · subst q; simp
  · simp [q]
theorem pB_nil (h : PH) (a : Nat) (x : Int64) : pB h a (fun k => if k < 0 then x else h.2 a k) = h := by
  refine ph_ext (fun b k => rfl) (fun b k => ?_)
  simp only [pB_2]
  by_cases q : b = a
  · subst q; simp
  · simp [q]
set_option maxRecDepth 100000 in
set_option maxHeartbeats 4000000 in
theorem k_fillI_loop {a n : Nat} (hs : shp a = some (.inr (.int, n))) (hn : n.blt 1000 = true) (h : PH) (x : Int32) : ∀ (m i : Nat), i + m = n → RT mJ7_fill_53178 1 5 [some (.ref a), some (.int x), some (.int (nI i)), some (.int (nI n))] [] (pA h a (fun k => if k < i then x else h.1 a k)) (fun r b => r = none ∧ b = pA h a (fun k => if k < n then x else h.1 a k)) := by
  have hn1 := Nat.le_of_ble_eq_true hn
  intro m
  induction m with
  | zero =>
    intro i hi
    refine r_iload_2 dJ7_fill_53178_5 ?_
    refine r_iload_3 dJ7_fill_53178_6 ?_
    refine r_icmpN_ge 20 dJ7_fill_53178_7 (by decide) (by omega) (by omega) (fun c_7 => ?_) (fun c_7 => by omega)
    refine r_vret dJ7_fill_53178_20 rfl ?_
    refine ⟨rfl, ?_⟩
    have : i = n := by omega
    subst this; rfl
  | succ m ih =>
    intro i hi
    refine r_iload_2 dJ7_fill_53178_5 ?_
    refine r_iload_3 dJ7_fill_53178_6 ?_
    refine r_icmpN_ge 20 dJ7_fill_53178_7 (by decide) (by omega) (by omega) (fun c_7 => by omega) (fun c_7 => ?_)
    refine r_aload_0 dJ7_fill_53178_10 ?_
    refine r_iload_2 dJ7_fill_53178_11 ?_
    refine r_iload_1 dJ7_fill_53178_12 ?_
    refine r_iastN dJ7_fill_53178_13 hs (by omega) ?_
    refine r_iincN_2 dJ7_fill_53178_14 ?_
    refine r_goto 5 dJ7_fill_53178_17 (by decide) ?_
    rw [pA_snoc]; exact ih (i + 1) (by omega)
set_option maxRecDepth 100000 in
set_option maxHeartbeats 4000000 in
theorem k_fillI {a n : Nat} (hs : shp a = some (.inr (.int, n))) (h : PH) (x : Int32) (hn : n.blt 1000 = true := by rfl) : ConF mJ7_fill_53178 1 [.ref a, .int x] h none (pA h a (fun k => if k < n then x else h.1 a k)) := by
  refine Con.mk (by decide) ?_
  show RT _ _ 0 [some (.ref a), some (.int x), none, none] [] _ _
  refine r_iconst (v := nI 0) dJ7_fill_53178_0 (by decide) ?_
  refine r_istore_2 dJ7_fill_53178_1 ?_
  refine r_aload_0 dJ7_fill_53178_2 ?_
  refine r_alen dJ7_fill_53178_3 hs ?_
  refine r_istore_3 dJ7_fill_53178_4 ?_
  have := k_fillI_loop hs hn h x n 0 (by omega)
  rw [pA_nil] at this
  exact this

set_option maxRecDepth 100000 in
set_option maxHeartbeats 4000000 in
theorem k_fillL_loop {a n : Nat} (hs : shp a = some (.inr (.long, n))) (hn : n.blt 1000 = true) (h : PH) (x : Int64) : ∀ (m i : Nat), i + m = n → RT mJ7_fill_d0a16 1 6 [some (.ref a), some (.long x), none, some (.int (nI i)), some (.int (nI n))] [] (pB h a (fun k => if k < i then x else h.2 a k)) (fun r b => r = none ∧ b = pB h a (fun k => if k < n then x else h.2 a k)) := by
  have hn1 := Nat.le_of_ble_eq_true hn
  intro m
  induction m with
  | zero =>
    intro i hi
    refine r_iload_3 dJ7_fill_d0a16_6 ?_
    refine r_iload_4 dJ7_fill_d0a16_7 ?_
    refine r_icmpN_ge 22 dJ7_fill_d0a16_9 (by decide) (by omega) (by omega) (fun c_9 => ?_) (fun c_9 => by omega)
    refine r_vret dJ7_fill_d0a16_22 rfl ?_
    refine ⟨rfl, ?_⟩
    have : i = n := by omega
    subst this; rfl
  | succ m ih =>
    intro i hi
    refine r_iload_3 dJ7_fill_d0a16_6 ?_
    refine r_iload_4 dJ7_fill_d0a16_7 ?_
    refine r_icmpN_ge 22 dJ7_fill_d0a16_9 (by decide) (by omega) (by omega) (fun c_9 => by omega) (fun c_9 => ?_)
    refine r_aload_0 dJ7_fill_d0a16_12 ?_
    refine r_iload_3 dJ7_fill_d0a16_13 ?_
    refine r_lload_1 dJ7_fill_d0a16_14 ?_
    refine r_lastN dJ7_fill_d0a16_15 hs (by omega) ?_
    refine r_iincN_3 dJ7_fill_d0a16_16 ?_
    refine r_goto 6 dJ7_fill_d0a16_19 (by decide) ?_
    rw [pB_snoc]; exact ih (i + 1) (by omega)
set_option maxRecDepth 100000 in
set_option maxHeartbeats 4000000 in
theorem k_fillL {a n : Nat} (hs : shp a = some (.inr (.long, n))) (h : PH) (x : Int64) (hn : n.blt 1000 = true := by rfl) : ConF mJ7_fill_d0a16 1 [.ref a, .long x] h none (pB h a (fun k => if k < n then x else h.2 a k)) := by
  refine Con.mk (by decide) ?_
  show RT _ _ 0 [some (.ref a), some (.long x), none, none, none] [] _ _
  refine r_iconst (v := nI 0) dJ7_fill_d0a16_0 (by decide) ?_
  refine r_istore_3 dJ7_fill_d0a16_1 ?_
  refine r_aload_0 dJ7_fill_d0a16_2 ?_
  refine r_alen dJ7_fill_d0a16_3 hs ?_
  refine r_istore_4 dJ7_fill_d0a16_4 ?_
  have := k_fillL_loop hs hn h x n 0 (by omega)
  rw [pB_nil] at this
  exact this

