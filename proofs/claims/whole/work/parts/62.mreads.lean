/-! ===== the reference: bounds, refusals, reads ===== -/
theorem NetM.f2 {h : PH} {t : NT} (c : NetM h t) {k : Nat} (x : Int32) (hk : k ≠ 6 ∧ k ≠ 7 ∧ k ≠ 17 ∧ k ≠ 44 ∧ k ≠ 45 ∧ k ≠ 46) : NetM (pI h 74 k x) t := by
  obtain ⟨a, b, c', d, e, f⟩ := hk
  have g : ∀ y, y ≠ 74 → (pI h 74 k x).1 y = h.1 y := fun y hy => funext fun j => pI_ne y j (Or.inl hy)
  unfold NetM drE
  rw [pI_ne 74 6 (Or.inr (Ne.symm a)), pI_ne 74 7 (Or.inr (Ne.symm b)), pI_ne 74 17 (Or.inr (Ne.symm c')), pI_ne 74 44 (Or.inr (Ne.symm d)), pI_ne 74 45 (Or.inr (Ne.symm e)), pI_ne 74 46 (Or.inr (Ne.symm f)), g 76 (by decide), g 77 (by decide), g 79 (by decide), g 80 (by decide), g 81 (by decide), g 82 (by decide), g 83 (by decide), g 84 (by decide)]
  exact c
theorem SolM.f2 {h : PH} {t : NT} {y : Int32 × Nat × Bool} (c : SolM h t y) {k : Nat} (x : Int32) (hk : k < 6 ∨ (17 < k ∧ k < 28) ∨ 46 < k) : SolM (pI h 74 k x) t y := by
  obtain ⟨a, b, c', d, e, f, g, i, j⟩ := c
  have z : ∀ m, k ≠ m → (pI h 74 k x).1 74 m = h.1 74 m := fun m hm => pI_ne 74 m (Or.inr (Ne.symm hm))
  exact ⟨a.f2 x (by omega), (z 28 (by omega)).trans b, (z 39 (by omega)).trans c', (z 41 (by omega)).trans d, (z 40 (by omega)).trans e, f.f k x (by omega) (by omega), g.f k x (by omega), i, j⟩
theorem b2i_c {p q : Prop} [Decidable p] [Decidable q] (h : p ↔ q) : b2i p = b2i q := by
  by_cases z : p
  · rw [b2i_t z, b2i_t (h.mp z)]
  · rw [b2i_f z, b2i_f (fun y => z (h.mpr y))]
theorem le64 {x y : Int64} : x ≤ y ↔ x.toInt ≤ y.toInt := Int64.le_iff_toInt_le
theorem in_lt {v : Int32} {E : Nat} (hE : E < 15) : ((0 : Int64) ≤ v.toInt64 ∧ v.toInt64 ≤ (nI E - 1).toInt64) ↔ (0 ≤ v ∧ v < nI E) := by
  have h1 : (nI E - 1).toInt = (E : Int) - 1 := (by decide +kernel : ∀ E, E < 15 → (nI E - 1).toInt = (E : Int) - 1) E hE
  have h2 : (nI E).toInt = (E : Int) := (by decide +kernel : ∀ E, E < 15 → (nI E).toInt = (E : Int)) E hE
  have h0 : (0 : Int64).toInt = 0 := by decide +kernel
  rw [le64, le64, fa_le, fa_lt, toInt64_toInt, toInt64_toInt, h1, h2, h0, Int32.toInt_zero]
  omega
theorem in_dr {v : Int32} {E : Nat} (hE : E < 15) : ((1 : Int64) ≤ v.toInt64 ∧ v.toInt64 ≤ (nI E - 1).toInt64) ↔ (v ≠ 0 ∧ 0 ≤ v ∧ v < nI E) := by
  have h1 : (nI E - 1).toInt = (E : Int) - 1 := (by decide +kernel : ∀ E, E < 15 → (nI E - 1).toInt = (E : Int) - 1) E hE
  have h2 : (nI E).toInt = (E : Int) := (by decide +kernel : ∀ E, E < 15 → (nI E).toInt = (E : Int)) E hE
  have h0 : (1 : Int64).toInt = 1 := by decide +kernel
  have hz : v ≠ 0 ↔ ¬ v.toInt = 0 := by rw [Ne, ← Int32.toInt_inj, Int32.toInt_zero]
  rw [le64, le64, fa_le, fa_lt, toInt64_toInt, toInt64_toInt, h1, h2, h0, Int32.toInt_zero, hz]
  omega
/-- what is refused, or isn't -/
def rfH (h : PH) (x : Int32) : PH := pI (pI (pI h 74 0 0) 74 3 (-1)) 74 1 x
set_option maxRecDepth 100000 in
set_option maxHeartbeats 4000000 in
theorem q_in (h : PH) (v a b : Int64) : ConF mX8_in 1 [.long v, .long a, .long b] h (some (.int (b2i (a ≤ v ∧ v ≤ b)))) h := by
  refine Con.mk (by decide) ?_
  show RT _ _ 0 [some (.long v), none, some (.long a), none, some (.long b), none] [] _ _
  refine r_lload_0 dX8_in_0 ?_
  refine r_lload_2 dX8_in_1 ?_
  refine r_lif_lt 17 dX8_in_2 dX8_in_3 (by decide) (fun c_2 => ?_) (fun c_2 => ?_)
  · refine r_iconst (v := 0) dX8_in_17 (by decide) ?_
    refine r_zret dX8_in_18 rfl rfl ?_
    refine ⟨congrArg (fun x => some (Value.int x)) ?_, rfl⟩
    first
    | exact (b2i_f (fun q => absurd q.1 (Int64.not_le.mpr c_2))).symm
    | exact (b2i_f (fun q => absurd q.2 (Int64.not_le.mpr c_9))).symm
    | exact (b2i_t ⟨Int64.not_lt.mp c_2, Int64.not_lt.mp c_9⟩).symm
  · refine r_lload_0 dX8_in_6 ?_
    refine r_lload_4 dX8_in_7 ?_
    refine r_lif_gt 17 dX8_in_9 dX8_in_10 (by decide) (fun c_9 => ?_) (fun c_9 => ?_)
    · refine r_iconst (v := 0) dX8_in_17 (by decide) ?_
      refine r_zret dX8_in_18 rfl rfl ?_
      refine ⟨congrArg (fun x => some (Value.int x)) ?_, rfl⟩
      first
      | exact (b2i_f (fun q => absurd q.1 (Int64.not_le.mpr c_2))).symm
      | exact (b2i_f (fun q => absurd q.2 (Int64.not_le.mpr c_9))).symm
      | exact (b2i_t ⟨Int64.not_lt.mp c_2, Int64.not_lt.mp c_9⟩).symm
    · refine r_iconst (v := 1) dX8_in_13 (by decide) ?_
      refine r_goto 18 dX8_in_14 (by decide) ?_
      refine r_zret dX8_in_18 rfl rfl ?_
      refine ⟨congrArg (fun x => some (Value.int x)) ?_, rfl⟩
      first
      | exact (b2i_f (fun q => absurd q.1 (Int64.not_le.mpr c_2))).symm
      | exact (b2i_f (fun q => absurd q.2 (Int64.not_le.mpr c_9))).symm
      | exact (b2i_t ⟨Int64.not_lt.mp c_2, Int64.not_lt.mp c_9⟩).symm

set_option maxRecDepth 100000 in
set_option maxHeartbeats 4000000 in
theorem q_unless (h : PH) (x : Int32) : ConF mX8_unless 1 [.int x] h (some (.int (if x = 0 then 1 else 0))) h := by
  refine Con.mk (by decide) ?_
  show RT _ _ 0 [some (.int x)] [] _ _
  refine r_iload_0 dX8_unless_0 ?_
  refine r_if_eq 8 dX8_unless_1 (by decide) (fun c_1 => ?_) (fun c_1 => ?_)
  · refine r_iconst (v := 1) dX8_unless_8 (by decide) ?_
    refine r_iret dX8_unless_9 rfl ?_
    exact ⟨by simp [c_1], rfl⟩
  · refine r_iconst (v := 0) dX8_unless_4 (by decide) ?_
    refine r_goto 9 dX8_unless_5 (by decide) ?_
    refine r_iret dX8_unless_9 rfl ?_
    exact ⟨by simp [c_1], rfl⟩

set_option maxRecDepth 100000 in
set_option maxHeartbeats 4000000 in
theorem q_unless2 (h : PH) (x y : Int32) : ConF mX8_unless_ 1 [.int x, .int y] h (some (.int (if x = 0 then 1 else if y = 0 then 2 else 0))) h := by
  refine Con.mk (by decide) ?_
  show RT _ _ 0 [some (.int x), some (.int y)] [] _ _
  refine r_iload_0 dX8_unless__0 ?_
  refine r_if_ne 8 dX8_unless__1 (by decide) (fun c_1 => ?_) (fun c_1 => ?_)
  · refine r_iload_1 dX8_unless__8 ?_
    refine r_if_eq 16 dX8_unless__9 (by decide) (fun c_9 => ?_) (fun c_9 => ?_)
    · refine r_iconst (v := 2) dX8_unless__16 (by decide) ?_
      refine r_iret dX8_unless__17 rfl ?_
      exact ⟨by simp [*], rfl⟩
    · refine r_iconst (v := 0) dX8_unless__12 (by decide) ?_
      refine r_goto 17 dX8_unless__13 (by decide) ?_
      refine r_iret dX8_unless__17 rfl ?_
      exact ⟨by simp [*], rfl⟩
  · refine r_iconst (v := 1) dX8_unless__4 (by decide) ?_
    refine r_goto 17 dX8_unless__5 (by decide) ?_
    refine r_iret dX8_unless__17 rfl ?_
    exact ⟨by simp [*], rfl⟩

set_option maxRecDepth 100000 in
set_option maxHeartbeats 4000000 in
theorem q_isRefused (h : PH) (x : Int32) : ConF mX8_isRefused 1 [.ref 74, .int x] h (some (.int (b2i (¬ x = 0)))) (rfH h x) := by
  refine Con.mk (by decide) ?_
  show RT _ _ 0 [some (.ref 74), some (.int x)] [] _ _
  refine r_aload_0 dX8_isRefused_0 ?_
  refine r_iconst (v := 0) dX8_isRefused_1 (by decide) ?_
  refine r_putI dX8_isRefused_2 fl_X8_96 rfl rfl rfl ?_
  refine r_aload_0 dX8_isRefused_5 ?_
  refine r_iconst (v := (-1)) dX8_isRefused_6 (by decide) ?_
  refine r_putI dX8_isRefused_7 fl_X8_11 rfl rfl rfl ?_
  refine r_aload_0 dX8_isRefused_10 ?_
  refine r_iload_1 dX8_isRefused_11 ?_
  refine r_putI dX8_isRefused_12 fl_X8_99 rfl rfl rfl ?_
  refine r_iload_1 dX8_isRefused_15 ?_
  refine r_if_eq 23 dX8_isRefused_16 (by decide) (fun c_16 => ?_) (fun c_16 => ?_)
  · refine r_iconst (v := 0) dX8_isRefused_23 (by decide) ?_
    refine r_zret dX8_isRefused_24 rfl rfl ?_
    refine ⟨congrArg (fun x => some (Value.int x)) ?_, rfl⟩
    first | exact (b2i_f (fun q => q c_16)).symm | exact (b2i_t c_16).symm
  · refine r_iconst (v := 1) dX8_isRefused_19 (by decide) ?_
    refine r_goto 24 dX8_isRefused_20 (by decide) ?_
    refine r_zret dX8_isRefused_24 rfl rfl ?_
    refine ⟨congrArg (fun x => some (Value.int x)) ?_, rfl⟩
    first | exact (b2i_f (fun q => q c_16)).symm | exact (b2i_t c_16).symm

set_option maxRecDepth 100000 in
set_option maxHeartbeats 4000000 in
theorem q_no (h : PH) (x : Int32) : ConF mX8_no 1 [.ref 74, .int x] h (some (.int (-1))) (pI h 74 1 x) := by
  refine Con.mk (by decide) ?_
  show RT _ _ 0 [some (.ref 74), some (.int x)] [] _ _
  refine r_aload_0 dX8_no_0 ?_
  refine r_iload_1 dX8_no_1 ?_
  refine r_putI dX8_no_2 fl_X8_99 rfl rfl rfl ?_
  refine r_iconst (v := (-1)) dX8_no_5 (by decide) ?_
  refine r_iret dX8_no_6 rfl ?_
  exact ⟨rfl, rfl⟩

set_option maxRecDepth 100000 in
set_option maxHeartbeats 4000000 in
theorem q_nothing (h : PH) (x : Int32) : ConF mX8_nothing 1 [.ref 74, .int x] h (some (.long (-9223372036854775808))) (pI h 74 1 x) := by
  refine Con.mk (by decide) ?_
  show RT _ _ 0 [some (.ref 74), some (.int x)] [] _ _
  refine r_aload_0 dX8_nothing_0 ?_
  refine r_iload_1 dX8_nothing_1 ?_
  refine r_putI dX8_nothing_2 fl_X8_99 rfl rfl rfl ?_
  refine r_ldc2 dX8_nothing_5 ks_X8_102 ?_
  refine r_lret dX8_nothing_8 rfl ?_
  exact ⟨rfl, rfl⟩

set_option maxRecDepth 100000 in
set_option maxHeartbeats 4000000 in
theorem q_isEdge (h : PH) {n : Nat} (hn : n < 15) (hf : h.1 74 7 = nI n) (x : Int32) : ConF mX8_isEdge 2 [.ref 74, .int x] h (some (.int (b2i (0 ≤ x ∧ x < nI n)))) h := by
  refine Con.mk (by decide) ?_
  show RT _ _ 0 [some (.ref 74), some (.int x)] [] _ _
  refine r_iload_1 dX8_isEdge_0 ?_
  refine r_i2l dX8_isEdge_1 ?_
  refine r_lconst (v := 0) dX8_isEdge_2 (by decide) ?_
  refine r_aload_0 dX8_isEdge_3 ?_
  refine r_getI dX8_isEdge_4 fl_X8_232 rfl ?_
  rw [hf]
  refine r_iconst (v := 1) dX8_isEdge_7 (by decide) ?_
  refine r_isub dX8_isEdge_8 ?_
  refine r_i2l dX8_isEdge_9 ?_
  refine r_cS3 mX8_in dX8_isEdge_10 ml_X8_131 mo_X8_in (q_in h _ _ _) (by decide) ?_
  refine r_zret dX8_isEdge_13 rfl (by unfold b2i; split <;> rfl) ?_
  exact ⟨congrArg (fun x => some (Value.int x)) (b2i_c (in_lt hn)), rfl⟩

set_option maxRecDepth 100000 in
set_option maxHeartbeats 4000000 in
theorem q_isJoint (h : PH) {n : Nat} (hn : n < 15) (hf : h.1 74 6 = nI n) (x : Int32) : ConF mX8_isJoint 2 [.ref 74, .int x] h (some (.int (b2i (0 ≤ x ∧ x < nI n)))) h := by
  refine Con.mk (by decide) ?_
  show RT _ _ 0 [some (.ref 74), some (.int x)] [] _ _
  refine r_iload_1 dX8_isJoint_0 ?_
  refine r_i2l dX8_isJoint_1 ?_
  refine r_lconst (v := 0) dX8_isJoint_2 (by decide) ?_
  refine r_aload_0 dX8_isJoint_3 ?_
  refine r_getI dX8_isJoint_4 fl_X8_229 rfl ?_
  rw [hf]
  refine r_iconst (v := 1) dX8_isJoint_7 (by decide) ?_
  refine r_isub dX8_isJoint_8 ?_
  refine r_i2l dX8_isJoint_9 ?_
  refine r_cS3 mX8_in dX8_isJoint_10 ml_X8_131 mo_X8_in (q_in h _ _ _) (by decide) ?_
  refine r_zret dX8_isJoint_13 rfl (by unfold b2i; split <;> rfl) ?_
  exact ⟨congrArg (fun x => some (Value.int x)) (b2i_c (in_lt hn)), rfl⟩

set_option maxRecDepth 100000 in
set_option maxHeartbeats 4000000 in
theorem q_isDrawing (h : PH) {n : Nat} (hn : n < 15) (hf : h.1 74 6 = nI n) (x : Int32) : ConF mX8_isDrawing 2 [.ref 74, .int x] h (some (.int (b2i (x ≠ 0 ∧ 0 ≤ x ∧ x < nI n)))) h := by
  refine Con.mk (by decide) ?_
  show RT _ _ 0 [some (.ref 74), some (.int x)] [] _ _
  refine r_iload_1 dX8_isDrawing_0 ?_
  refine r_i2l dX8_isDrawing_1 ?_
  refine r_lconst (v := 1) dX8_isDrawing_2 (by decide) ?_
  refine r_aload_0 dX8_isDrawing_3 ?_
  refine r_getI dX8_isDrawing_4 fl_X8_229 rfl ?_
  rw [hf]
  refine r_iconst (v := 1) dX8_isDrawing_7 (by decide) ?_
  refine r_isub dX8_isDrawing_8 ?_
  refine r_i2l dX8_isDrawing_9 ?_
  refine r_cS3 mX8_in dX8_isDrawing_10 ml_X8_131 mo_X8_in (q_in h _ _ _) (by decide) ?_
  refine r_zret dX8_isDrawing_13 rfl (by unfold b2i; split <;> rfl) ?_
  exact ⟨congrArg (fun x => some (Value.int x)) (b2i_c (in_dr hn)), rfl⟩

set_option maxRecDepth 100000 in
set_option maxHeartbeats 4000000 in
theorem q_dry {t : NT} (ok : okT t) (sh : Int32) {h : PH} (nc : NetM h t) (tc : TreeM h (trS (snOf t) sh))  : ConF mX8_dryBits 1 [.ref 74] h (some (.int (dryS (NT.J t) (trS (snOf t) sh)))) h := by
  refine Con.mk (by decide) ?_
  show RT _ _ 0 [some (.ref 74)] [] _ _
  refine r_aload_0 dX8_dryBits_0 ?_
  refine r_getI dX8_dryBits_1 fl_X8_266 rfl ?_
  rw [metI_e tc.1]
  refine r_iconst (v := (-1)) dX8_dryBits_4 (by decide) ?_
  refine r_ixor dX8_dryBits_5 ?_
  refine r_iconst (v := 1) dX8_dryBits_6 (by decide) ?_
  refine r_aload_0 dX8_dryBits_7 ?_
  refine r_getI dX8_dryBits_8 fl_X8_229 rfl ?_
  rw [nc.1]
  refine r_ishl dX8_dryBits_11 ?_
  refine r_iconst (v := 1) dX8_dryBits_12 (by decide) ?_
  refine r_isub dX8_dryBits_13 ?_
  refine r_iand dX8_dryBits_14 ?_
  refine r_iret dX8_dryBits_15 rfl ?_
  exact ⟨by unfold dryS; rw [Int32.and_comm], rfl⟩

def onS (x : Int32) : Nat → Nat → Int32 → Int32 := accI (fun k => b2i (bt x k = true))
set_option maxRecDepth 100000 in
set_option maxHeartbeats 4000000 in
theorem ones_loop (h : PH) (x : Int32) : ∀ (m k : Nat) (acc : Int32), k + m = 16 → RT mX8_ones 1 4 [some (.int x), some (.int acc), some (.int (nI k))] [] h (fun a b => a = some (.int (onS x m k acc)) ∧ b = h) := by
  intro m
  induction m with
  | zero =>
    intro k acc hk
    refine r_iload_2 dX8_ones_4 ?_
    refine r_bipush (v := nI 16) dX8_ones_5 (by decide) ?_
    refine r_icmpN_ge 24 dX8_ones_7 (by decide) (by omega) (by omega) (fun c_7 => ?_) (fun c_7 => by omega)
    refine r_iload_1 dX8_ones_24 ?_
    refine r_iret dX8_ones_25 rfl ?_
    exact ⟨rfl, rfl⟩
  | succ m ih =>
    intro k acc hk
    refine r_iload_2 dX8_ones_4 ?_
    refine r_bipush (v := nI 16) dX8_ones_5 (by decide) ?_
    refine r_icmpN_ge 24 dX8_ones_7 (by decide) (by omega) (by omega) (fun c_7 => by omega) (fun c_7 => ?_)
    refine r_iload_1 dX8_ones_10 ?_
    refine r_iload_0 dX8_ones_11 ?_
    refine r_iload_2 dX8_ones_12 ?_
    refine r_ishr dX8_ones_13 ?_
    refine r_iconst (v := 1) dX8_ones_14 (by decide) ?_
    refine r_iand dX8_ones_15 ?_
    rw [bit_eq _ (show k < 32 by omega)]
    refine r_iadd dX8_ones_16 ?_
    refine r_istore_1 dX8_ones_17 ?_
    refine r_iincN_2 dX8_ones_18 ?_
    refine r_goto 4 dX8_ones_21 (by decide) ?_
    exact ih (k + 1) _ (by omega)
set_option maxRecDepth 100000 in
set_option maxHeartbeats 4000000 in
theorem q_ones (h : PH) (x : Int32) : ConF mX8_ones 1 [.int x] h (some (.int (onS x 16 0 0))) h := by
  refine Con.mk (by decide) ?_
  show RT _ _ 0 [some (.int x), none, none] [] _ _
  refine r_iconst (v := 0) dX8_ones_0 (by decide) ?_
  refine r_istore_1 dX8_ones_1 ?_
  refine r_iconst (v := nI 0) dX8_ones_2 (by decide) ?_
  refine r_istore_2 dX8_ones_3 ?_
  exact ones_loop h x 16 0 0 (by omega)

set_option maxRecDepth 100000 in
set_option maxHeartbeats 4000000 in
theorem mgiven {t : NT} (ok : okT t) (sh : Int32) {h : PH} (nc : NetM h t) (tc : TreeM h (trS (snOf t) sh)) (ht : ∀ j, 0 < j → j < NT.J t → h.1 76 j = NT.dr t j) : ∀ (m j : Nat) (acc : Int32), j + m = NT.J t → 1 ≤ j → RT mX8_given 2 4 [some (.ref 74), some (.int acc), some (.int (nI j))] [] h (fun a b => a = some (.int (accI (fun j => if (trS (snOf t) sh).2.2.2 j = true then NT.dr t j else 0) m j acc)) ∧ b = h) := by
  have hJ9 := ok.2.1
  intro m
  induction m with
  | zero =>
    intro j acc hj h1
    refine r_iload_2 dX8_given_4 ?_
    refine r_aload_0 dX8_given_5 ?_
    refine r_getI dX8_given_6 fl_X8_229 rfl ?_
    rw [nc.1]
    refine r_icmpN_ge 39 dX8_given_9 (by decide) (by omega) (by omega) (fun c_9 => ?_) (fun c_9 => by omega)
    refine r_iload_1 dX8_given_39 ?_
    refine r_iret dX8_given_40 rfl ?_
    exact ⟨rfl, rfl⟩
  | succ m ih =>
    intro j acc hj h1
    have hbt := tc.1 j (by omega)
    have ih' := ih (j + 1) (acc + (fun j => if (trS (snOf t) sh).2.2.2 j = true then NT.dr t j else 0) j) (by omega) (by omega)
    show RT _ _ _ _ _ _ (fun a b => a = some (.int (accI (fun j => if (trS (snOf t) sh).2.2.2 j = true then NT.dr t j else 0) m (j + 1) (acc + (fun j => if (trS (snOf t) sh).2.2.2 j = true then NT.dr t j else 0) j))) ∧ b = h)
    cases hm : (trS (snOf t) sh).2.2.2 j
    · refine r_iload_2 dX8_given_4 ?_
      refine r_aload_0 dX8_given_5 ?_
      refine r_getI dX8_given_6 fl_X8_229 rfl ?_
      rw [nc.1]
      refine r_icmpN_ge 39 dX8_given_9 (by decide) (by omega) (by omega) (fun c_9 => by omega) (fun c_9 => ?_)
      refine r_iload_1 dX8_given_12 ?_
      refine r_aload_0 dX8_given_13 ?_
      refine r_iload_2 dX8_given_14 ?_
      refine r_cV1 mX8_isMet dX8_given_15 ml_X8_272 mo_X8_isMet rfl (q_isMet h (j := j) (by omega)) (by decide) ?_
      rw [hbt, hm]
      refine r_if_eq 30 dX8_given_18 (by decide) (fun c_18 => ?_) (fun c_18 => by exact absurd rfl c_18)
      refine r_iconst (v := 0) dX8_given_30 (by decide) ?_
      refine r_iadd dX8_given_31 ?_
      refine r_istore_1 dX8_given_32 ?_
      refine r_iincN_2 dX8_given_33 ?_
      refine r_goto 4 dX8_given_36 (by decide) ?_
      simp only [hm, if_true, if_false, Bool.false_eq_true] at ih' ⊢
      exact ih'
    · refine r_iload_2 dX8_given_4 ?_
      refine r_aload_0 dX8_given_5 ?_
      refine r_getI dX8_given_6 fl_X8_229 rfl ?_
      rw [nc.1]
      refine r_icmpN_ge 39 dX8_given_9 (by decide) (by omega) (by omega) (fun c_9 => by omega) (fun c_9 => ?_)
      refine r_iload_1 dX8_given_12 ?_
      refine r_aload_0 dX8_given_13 ?_
      refine r_iload_2 dX8_given_14 ?_
      refine r_cV1 mX8_isMet dX8_given_15 ml_X8_272 mo_X8_isMet rfl (q_isMet h (j := j) (by omega)) (by decide) ?_
      rw [hbt, hm]
      refine r_if_eq 30 dX8_given_18 (by decide) (fun c_18 => by exact absurd c_18 (by decide)) (fun c_18 => ?_)
      refine r_aload_0 dX8_given_21 ?_
      refine r_getR (a := 76) dX8_given_22 fl_X8_19 rfl rfl ?_
      refine r_iload_2 dX8_given_25 ?_
      refine r_ialdN dX8_given_26 rfl (by omega) ?_
      rw [ht j (by omega) (by omega)]
      refine r_goto 31 dX8_given_27 (by decide) ?_
      refine r_iadd dX8_given_31 ?_
      refine r_istore_1 dX8_given_32 ?_
      refine r_iincN_2 dX8_given_33 ?_
      refine r_goto 4 dX8_given_36 (by decide) ?_
      simp only [hm, if_true, if_false, Bool.false_eq_true] at ih' ⊢
      exact ih'
set_option maxRecDepth 100000 in
set_option maxHeartbeats 4000000 in
theorem q_given {t : NT} (ok : okT t) (sh : Int32) {h : PH} (nc : NetM h t) (tc : TreeM h (trS (snOf t) sh)) (ht : ∀ j, 0 < j → j < NT.J t → h.1 76 j = NT.dr t j) (h0 : NT.dr t 0 = 0) : ConF mX8_given 2 [.ref 74] h (some (.int (gvS t (trS (snOf t) sh)))) h := by
  refine Con.mk (by decide) ?_
  show RT _ _ 0 [some (.ref 74), none, none] [] _ _
  have hJ := ok.1
  rw [gv_eq ok sh h0]
  refine r_iconst (v := 0) dX8_given_0 (by decide) ?_
  refine r_istore_1 dX8_given_1 ?_
  refine r_iconst (v := nI 1) dX8_given_2 (by decide) ?_
  refine r_istore_2 dX8_given_3 ?_
  exact mgiven ok sh nc tc ht (NT.J t - 1) 1 0 (by omega) (Nat.le_refl _)

set_option maxRecDepth 100000 in
set_option maxHeartbeats 4000000 in
theorem q_press {t : NT} (ok : okT t) {h : PH} (nc : NetM h t) (hd : FL) {j : Nat} (hj : j < NT.J t) (hh : h.2 91 j = hd j) : ConF mX8_pressureOf 1 [.ref 74, .int (nI j)] h (some (.long (prS t hd j))) h := by
  refine Con.mk (by decide) ?_
  show RT _ _ 0 [some (.ref 74), some (.int (nI j))] [] _ _
  have hj9 := ok.2.1
  by_cases h0 : j = 0
  · subst h0
    refine r_iload_1 dX8_pressureOf_0 ?_
    refine r_if_ne 8 dX8_pressureOf_1 (by decide) (fun c_1 => by exact absurd rfl c_1) (fun c_1 => ?_)
    refine r_lconst (v := 0) dX8_pressureOf_4 (by decide) ?_
    refine r_goto 26 dX8_pressureOf_5 (by decide) ?_
    refine r_lret dX8_pressureOf_26 rfl ?_
    exact ⟨by simp [prS], rfl⟩
  · refine r_iload_1 dX8_pressureOf_0 ?_
    refine r_if_ne 8 dX8_pressureOf_1 (by decide) (fun c_1 => ?_) (fun c_1 => by exact absurd c_1 (nI_nz (by omega) h0))
    refine r_aload_0 dX8_pressureOf_8 ?_
    refine r_getR (a := 91) dX8_pressureOf_9 fl_X8_65 rfl rfl ?_
    refine r_iload_1 dX8_pressureOf_12 ?_
    refine r_laldN dX8_pressureOf_13 rfl (by omega) ?_
    rw [hh]
    refine r_ldc2 dX8_pressureOf_14 ks_X8_306 ?_
    refine r_aload_0 dX8_pressureOf_17 ?_
    refine r_getR (a := 77) dX8_pressureOf_18 fl_X8_22 rfl rfl ?_
    refine r_iload_1 dX8_pressureOf_21 ?_
    refine r_ialdN dX8_pressureOf_22 rfl (by omega) ?_
    rw [nc.2.2.2.2.2.1 _ hj]
    refine r_i2l dX8_pressureOf_23 ?_
    refine r_lmul dX8_pressureOf_24 ?_
    refine r_lsub dX8_pressureOf_25 ?_
    refine r_lret dX8_pressureOf_26 rfl ?_
    exact ⟨by simp [prS, h0], rfl⟩

set_option maxRecDepth 100000 in
set_option maxHeartbeats 4000000 in
theorem mweak {t : NT} (ok : okT t) (sh : Int32) {h : PH} (nc : NetM h t) (tc : TreeM h (trS (snOf t) sh)) (hd : FL) (hh : ∀ j, (trS (snOf t) sh).2.2.2 j = true → h.2 91 j = hd j) : ∀ (m j : Nat) (b : Option Nat), j + m = NT.J t → 1 ≤ j → (∀ k, b = some k → (trS (snOf t) sh).2.2.2 k = true ∧ 1 ≤ k) → RT mX8_weakestNow 2 5 [some (.ref 74), some (.int (wI b)), some (.int (nI j))] [] h (fun a c => a = some (.int (wI (wkS t (trS (snOf t) sh) hd m j b))) ∧ c = h) := by
  have hJ9 := ok.2.1
  intro m
  induction m with
  | zero =>
    intro j b hj h1 hb
    refine r_iload_2 dX8_weakestNow_5 ?_
    refine r_aload_0 dX8_weakestNow_6 ?_
    refine r_getI dX8_weakestNow_7 fl_X8_229 rfl ?_
    rw [nc.1]
    refine r_icmpN_ge 49 dX8_weakestNow_10 (by decide) (by omega) (by omega) (fun c_10 => ?_) (fun c_10 => by omega)
    refine r_iload_1 dX8_weakestNow_49 ?_
    refine r_iret dX8_weakestNow_50 rfl ?_
    exact ⟨rfl, rfl⟩
  | succ m ih =>
    intro j b hj h1 hb
    have hjJ : j < NT.J t := by omega
    have hbt := tc.1 j (by omega)
    have ih1 := ih (j + 1) (some j) (by omega) (by omega)
    have ih0 := ih (j + 1) b (by omega) (by omega) hb
    by_cases hm : (trS (snOf t) sh).2.2.2 j = true
    · have ih1 := ih1 (fun k hk => by cases hk; exact ⟨hm, h1⟩)
      have pj := q_press ok nc hd hjJ (hh j hm)
      cases b with
      | none =>
        simp only [wkS, hm, true_and, true_or, if_true]
        refine r_iload_2 dX8_weakestNow_5 ?_
        refine r_aload_0 dX8_weakestNow_6 ?_
        refine r_getI dX8_weakestNow_7 fl_X8_229 rfl ?_
        rw [nc.1]
        refine r_icmpN_ge 49 dX8_weakestNow_10 (by decide) (by omega) (by omega) (fun c_10 => by omega) (fun c_10 => ?_)
        refine r_aload_0 dX8_weakestNow_13 ?_
        refine r_iload_2 dX8_weakestNow_14 ?_
        refine r_cV1 mX8_isMet dX8_weakestNow_15 ml_X8_272 mo_X8_isMet rfl (q_isMet h (j := j) (by omega)) (by decide) ?_
        rw [hbt, hm]
        refine r_if_eq 43 dX8_weakestNow_18 (by decide) (fun c_18 => by exact absurd c_18 (by decide)) (fun c_18 => ?_)
        refine r_iload_1 dX8_weakestNow_21 ?_
        refine r_bipush (v := (-2)) dX8_weakestNow_22 (by decide) ?_
        refine r_icmp_eq 41 dX8_weakestNow_24 (by decide) (fun c_24 => ?_) (fun c_24 => by exact absurd rfl c_24)
        refine r_iload_2 dX8_weakestNow_41 ?_
        refine r_istore_1 dX8_weakestNow_42 ?_
        refine r_iincN_2 dX8_weakestNow_43 ?_
        refine r_goto 5 dX8_weakestNow_46 (by decide) ?_
        exact ih1
      | some k =>
        have hk := hb k rfl
        have hkJ := ok.met sh hk.1
        have pk := q_press ok nc hd hkJ (hh k hk.1)
        simp only [wkS, hm, true_and, reduceCtorEq, false_or, Option.getD_some]
        refine r_iload_2 dX8_weakestNow_5 ?_
        refine r_aload_0 dX8_weakestNow_6 ?_
        refine r_getI dX8_weakestNow_7 fl_X8_229 rfl ?_
        rw [nc.1]
        refine r_icmpN_ge 49 dX8_weakestNow_10 (by decide) (by omega) (by omega) (fun c_10 => by omega) (fun c_10 => ?_)
        refine r_aload_0 dX8_weakestNow_13 ?_
        refine r_iload_2 dX8_weakestNow_14 ?_
        refine r_cV1 mX8_isMet dX8_weakestNow_15 ml_X8_272 mo_X8_isMet rfl (q_isMet h (j := j) (by omega)) (by decide) ?_
        rw [hbt, hm]
        refine r_if_eq 43 dX8_weakestNow_18 (by decide) (fun c_18 => by exact absurd c_18 (by decide)) (fun c_18 => ?_)
        refine r_iload_1 dX8_weakestNow_21 ?_
        refine r_bipush (v := (-2)) dX8_weakestNow_22 (by decide) ?_
        refine r_icmp_eq 41 dX8_weakestNow_24 (by decide) (fun c_24 => by exact absurd c_24 (nI_ne_m2 (by omega))) (fun c_24 => ?_)
        refine r_aload_0 dX8_weakestNow_27 ?_
        refine r_iload_2 dX8_weakestNow_28 ?_
        refine r_cV1 mX8_pressureOf dX8_weakestNow_29 ml_X8_410 mo_X8_pressureOf rfl pj (by decide) ?_
        refine r_aload_0 dX8_weakestNow_32 ?_
        refine r_iload_1 dX8_weakestNow_33 ?_
        refine r_cV1 mX8_pressureOf dX8_weakestNow_34 ml_X8_410 mo_X8_pressureOf rfl pk (by decide) ?_
        refine r_lif_ge 43 dX8_weakestNow_37 dX8_weakestNow_38 (by decide) (fun c_37 => ?_) (fun c_37 => ?_)
        · refine r_iincN_2 dX8_weakestNow_43 ?_
          refine r_goto 5 dX8_weakestNow_46 (by decide) ?_
          first | (rw [if_neg (Int64.not_lt.mpr c_37)]; exact ih0) | (rw [if_pos (Int64.not_le.mp c_37)]; exact ih1)
        · refine r_iload_2 dX8_weakestNow_41 ?_
          refine r_istore_1 dX8_weakestNow_42 ?_
          refine r_iincN_2 dX8_weakestNow_43 ?_
          refine r_goto 5 dX8_weakestNow_46 (by decide) ?_
          first | (rw [if_neg (Int64.not_lt.mpr c_37)]; exact ih0) | (rw [if_pos (Int64.not_le.mp c_37)]; exact ih1)
    · simp only [wkS, hm, false_and, if_false, Bool.false_eq_true]
      refine r_iload_2 dX8_weakestNow_5 ?_
      refine r_aload_0 dX8_weakestNow_6 ?_
      refine r_getI dX8_weakestNow_7 fl_X8_229 rfl ?_
      rw [nc.1]
      refine r_icmpN_ge 49 dX8_weakestNow_10 (by decide) (by omega) (by omega) (fun c_10 => by omega) (fun c_10 => ?_)
      refine r_aload_0 dX8_weakestNow_13 ?_
      refine r_iload_2 dX8_weakestNow_14 ?_
      refine r_cV1 mX8_isMet dX8_weakestNow_15 ml_X8_272 mo_X8_isMet rfl (q_isMet h (j := j) (by omega)) (by decide) ?_
      rw [hbt, show (trS (snOf t) sh).2.2.2 j = false by simpa using hm]
      refine r_if_eq 43 dX8_weakestNow_18 (by decide) (fun c_18 => ?_) (fun c_18 => by exact absurd rfl c_18)
      refine r_iincN_2 dX8_weakestNow_43 ?_
      refine r_goto 5 dX8_weakestNow_46 (by decide) ?_
      exact ih0
set_option maxRecDepth 100000 in
set_option maxHeartbeats 4000000 in
theorem q_weak {t : NT} (ok : okT t) (sh : Int32) {h : PH} (nc : NetM h t) (tc : TreeM h (trS (snOf t) sh)) (hd : FL) (hh : ∀ j, (trS (snOf t) sh).2.2.2 j = true → h.2 91 j = hd j) : ConF mX8_weakestNow 2 [.ref 74] h (some (.int (wI (wkA t (trS (snOf t) sh) hd)))) h := by
  refine Con.mk (by decide) ?_
  show RT _ _ 0 [some (.ref 74), none, none] [] _ _
  have hJ := ok.1
  refine r_bipush (v := (-2)) dX8_weakestNow_0 (by decide) ?_
  refine r_istore_1 dX8_weakestNow_2 ?_
  refine r_iconst (v := nI 1) dX8_weakestNow_3 (by decide) ?_
  refine r_istore_2 dX8_weakestNow_4 ?_
  exact mweak ok sh nc tc hd hh (NT.J t - 1) 1 none (by omega) (Nat.le_refl _) (fun k hk => by cases hk)

theorem wk_all {t : NT} (h2 : 1 < NT.J t) {s : TS} {hd : FL} (hall : ∀ j, j < NT.J t → s.2.2.2 j = true) : ∃ k, wkA t s hd = some k := by
  have := wkS_some (t := t) (s := s) (hd := hd) (NT.J t - 1) 1 none (Or.inr ⟨1, Nat.le_refl _, by omega, hall 1 h2⟩)
  exact Option.isSome_iff_exists.mp this
set_option maxRecDepth 100000 in
set_option maxHeartbeats 4000000 in
theorem q_isEnough {t : NT} (ok : okT t) (sh : Int32) {h : PH} (nc : NetM h t) (tc : TreeM h (trS (snOf t) sh)) (hd : FL) (hh : ∀ j, (trS (snOf t) sh).2.2.2 j = true → h.2 91 j = hd j) (h2 : 1 < NT.J t) (p : Int32) : ConF mX8_isEnough 3 [.ref 74, .int p] h (some (.int (b2i (p.toInt64 ≤ lpA t (trS (snOf t) sh) hd ∧ dryS (NT.J t) (trS (snOf t) sh) = 0)))) h := by
  refine Con.mk (by decide) ?_
  show RT _ _ 0 [some (.ref 74), some (.int p), none] [] _ _
  by_cases h0 : dryS (NT.J t) (trS (snOf t) sh) = 0
  · obtain ⟨k, hk⟩ := wk_all (hd := hd) h2 ((dryS_0 ok.2.1).mp h0)
    have hkm := wkA_met hk
    have hw := q_weak ok sh nc tc hd hh
    rw [hk] at hw
    have e1 : lpA t (trS (snOf t) sh) hd = prS t hd k := by unfold lpA lpS; rw [if_pos h0, hk]
    have pk := q_press ok nc hd (ok.met sh hkm.1) (hh k hkm.1)
    refine r_aload_0 dX8_isEnough_0 ?_
    refine r_cV0 mX8_weakestNow dX8_isEnough_1 ml_X8_413 mo_X8_weakestNow rfl hw (by decide) ?_
    refine r_istore_2 dX8_isEnough_4 ?_
    refine r_aload_0 dX8_isEnough_5 ?_
    refine r_cV0 mX8_dryBits dX8_isEnough_6 ml_X8_391 mo_X8_dryBits rfl (q_dry ok sh nc tc) (by decide) ?_
    refine r_if_ne 27 dX8_isEnough_9 (by decide) (fun c_9 => by exact absurd h0 c_9) (fun c_9 => ?_)
    refine r_aload_0 dX8_isEnough_12 ?_
    refine r_iload_2 dX8_isEnough_13 ?_
    refine r_cV1 mX8_pressureOf dX8_isEnough_14 ml_X8_410 mo_X8_pressureOf rfl pk (by decide) ?_
    refine r_iload_1 dX8_isEnough_17 ?_
    refine r_i2l dX8_isEnough_18 ?_
    refine r_lif_lt 27 dX8_isEnough_19 dX8_isEnough_20 (by decide) (fun c_19 => ?_) (fun c_19 => ?_)
    · refine r_iconst (v := 0) dX8_isEnough_27 (by decide) ?_
      refine r_zret dX8_isEnough_28 rfl rfl ?_
      exact ⟨congrArg (fun x => some (Value.int x)) (by rw [e1]; first | exact (b2i_f (fun q => absurd q.1 (Int64.not_le.mpr c_19))).symm | exact (b2i_t ⟨Int64.not_lt.mp c_19, h0⟩).symm), rfl⟩
    · refine r_iconst (v := 1) dX8_isEnough_23 (by decide) ?_
      refine r_goto 28 dX8_isEnough_24 (by decide) ?_
      refine r_zret dX8_isEnough_28 rfl rfl ?_
      exact ⟨congrArg (fun x => some (Value.int x)) (by rw [e1]; first | exact (b2i_f (fun q => absurd q.1 (Int64.not_le.mpr c_19))).symm | exact (b2i_t ⟨Int64.not_lt.mp c_19, h0⟩).symm), rfl⟩
  · refine r_aload_0 dX8_isEnough_0 ?_
    refine r_cV0 mX8_weakestNow dX8_isEnough_1 ml_X8_413 mo_X8_weakestNow rfl (q_weak ok sh nc tc hd hh) (by decide) ?_
    refine r_istore_2 dX8_isEnough_4 ?_
    refine r_aload_0 dX8_isEnough_5 ?_
    refine r_cV0 mX8_dryBits dX8_isEnough_6 ml_X8_391 mo_X8_dryBits rfl (q_dry ok sh nc tc) (by decide) ?_
    refine r_if_ne 27 dX8_isEnough_9 (by decide) (fun c_9 => ?_) (fun c_9 => by exact absurd c_9 h0)
    refine r_iconst (v := 0) dX8_isEnough_27 (by decide) ?_
    refine r_zret dX8_isEnough_28 rfl rfl ?_
    exact ⟨congrArg (fun x => some (Value.int x)) (b2i_f (fun q => h0 q.2)).symm, rfl⟩

set_option maxRecDepth 100000 in
set_option maxHeartbeats 4000000 in
theorem mends {h : PH} {t : NT} (ok : okT t) (nc : NetM h t) {j : Nat} (hj : j < 9) : ∀ (m e : Nat) (acc : Int32), e + m = NT.E t → RT mX8_endsAt 1 4 [some (.ref 74), some (.int (nI j)), some (.int acc), some (.int (nI e))] [] h (fun a b => a = some (.int (eaS t j m e acc)) ∧ b = h) := by
  have hE14 := ok.2.2.1
  intro m
  induction m with
  | zero =>
    intro e acc he
    refine r_iload_3 dX8_endsAt_4 ?_
    refine r_aload_0 dX8_endsAt_5 ?_
    refine r_getI dX8_endsAt_6 fl_X8_232 rfl ?_
    rw [nc.2.1]
    refine r_icmpN_ge 48 dX8_endsAt_9 (by decide) (by omega) (by omega) (fun c_9 => ?_) (fun c_9 => by omega)
    refine r_iload_2 dX8_endsAt_48 ?_
    refine r_iret dX8_endsAt_49 rfl ?_
    exact ⟨rfl, rfl⟩
  | succ m ih =>
    intro e acc he
    have hee : e < NT.E t := by omega
    obtain ⟨n1, n2, n3, n4, n5, n6⟩ := nc.2.2.2.2.2.2 e hee
    obtain ⟨ee1, ee2, ee3⟩ := ok.ends e hee
    have o0 : acc ||| 0 = acc := by simp
    simp only [eaS]
    refine r_iload_3 dX8_endsAt_4 ?_
    refine r_aload_0 dX8_endsAt_5 ?_
    refine r_getI dX8_endsAt_6 fl_X8_232 rfl ?_
    rw [nc.2.1]
    refine r_icmpN_ge 48 dX8_endsAt_9 (by decide) (by omega) (by omega) (fun c_9 => by omega) (fun c_9 => ?_)
    refine r_iload_2 dX8_endsAt_12 ?_
    refine r_aload_0 dX8_endsAt_13 ?_
    refine r_getR (a := 79) dX8_endsAt_14 fl_X8_28 rfl rfl ?_
    refine r_iload_3 dX8_endsAt_17 ?_
    refine r_ialdN dX8_endsAt_18 rfl (by omega) ?_
    rw [n1]
    refine r_iload_1 dX8_endsAt_19 ?_
    refine r_icmpN_eq 33 dX8_endsAt_20 (by decide) (by omega) (by omega) (fun c_20 => ?_) (fun c_20 => ?_)
    · refine r_iconst (v := 1) dX8_endsAt_33 (by decide) ?_
      refine r_iload_3 dX8_endsAt_34 ?_
      refine r_ishl dX8_endsAt_35 ?_
      refine r_goto 40 dX8_endsAt_36 (by decide) ?_
      refine r_ior dX8_endsAt_40 ?_
      refine r_istore_2 dX8_endsAt_41 ?_
      refine r_iincN_3 dX8_endsAt_42 ?_
      refine r_goto 4 dX8_endsAt_45 (by decide) ?_
      first | (rw [if_pos (Or.inl c_20)]; exact ih (e + 1) _ (by omega)) | (rw [if_pos (Or.inr c_30)]; exact ih (e + 1) _ (by omega)) | (rw [if_neg (fun q => q.elim c_20 c_30), o0]; exact ih (e + 1) _ (by omega))
    · refine r_aload_0 dX8_endsAt_23 ?_
      refine r_getR (a := 80) dX8_endsAt_24 fl_X8_31 rfl rfl ?_
      refine r_iload_3 dX8_endsAt_27 ?_
      refine r_ialdN dX8_endsAt_28 rfl (by omega) ?_
      rw [n2]
      refine r_iload_1 dX8_endsAt_29 ?_
      refine r_icmpN_ne 39 dX8_endsAt_30 (by decide) (by omega) (by omega) (fun c_30 => ?_) (fun c_30 => ?_)
      · refine r_iconst (v := 0) dX8_endsAt_39 (by decide) ?_
        refine r_ior dX8_endsAt_40 ?_
        refine r_istore_2 dX8_endsAt_41 ?_
        refine r_iincN_3 dX8_endsAt_42 ?_
        refine r_goto 4 dX8_endsAt_45 (by decide) ?_
        first | (rw [if_pos (Or.inl c_20)]; exact ih (e + 1) _ (by omega)) | (rw [if_pos (Or.inr c_30)]; exact ih (e + 1) _ (by omega)) | (rw [if_neg (fun q => q.elim c_20 c_30), o0]; exact ih (e + 1) _ (by omega))
      · refine r_iconst (v := 1) dX8_endsAt_33 (by decide) ?_
        refine r_iload_3 dX8_endsAt_34 ?_
        refine r_ishl dX8_endsAt_35 ?_
        refine r_goto 40 dX8_endsAt_36 (by decide) ?_
        refine r_ior dX8_endsAt_40 ?_
        refine r_istore_2 dX8_endsAt_41 ?_
        refine r_iincN_3 dX8_endsAt_42 ?_
        refine r_goto 4 dX8_endsAt_45 (by decide) ?_
        first | (rw [if_pos (Or.inl c_20)]; exact ih (e + 1) _ (by omega)) | (rw [if_pos (Or.inr c_30)]; exact ih (e + 1) _ (by omega)) | (rw [if_neg (fun q => q.elim c_20 c_30), o0]; exact ih (e + 1) _ (by omega))
set_option maxRecDepth 100000 in
set_option maxHeartbeats 4000000 in
theorem q_endsAt {h : PH} {t : NT} (ok : okT t) (nc : NetM h t) {j : Nat} (hj : j < 9) : ConF mX8_endsAt 1 [.ref 74, .int (nI j)] h (some (.int (eaS t j (NT.E t) 0 0))) h := by
  refine Con.mk (by decide) ?_
  show RT _ _ 0 [some (.ref 74), some (.int (nI j)), none, none] [] _ _
  refine r_iconst (v := 0) dX8_endsAt_0 (by decide) ?_
  refine r_istore_2 dX8_endsAt_1 ?_
  refine r_iconst (v := nI 0) dX8_endsAt_2 (by decide) ?_
  refine r_istore_3 dX8_endsAt_3 ?_
  exact mends ok nc hj (NT.E t) 0 0 (by omega)

set_option maxRecDepth 100000 in
set_option maxHeartbeats 4000000 in
theorem mthr_in {h : PH} {e : Nat} (he : e < 14) {k : Nat} (hk : k < 14) {L : RG} (ra : RAtM h k L) (h9 : L.length ≤ 9) (hm : ∀ q ∈ L, q.1 < 14) {Q : Option Value → PH → Prop} : ∀ (m j : Nat) (acc : Int32), j + m = L.length → RT mX8_ringsOf 1 56 [some (.ref 74), some (.int (nI e)), some (.int ((L.drop j).foldl (fun a q => if q.1 = e then a + 1 else a) acc)), some (.int (nI k)), none] [] h Q → RT mX8_ringsOf 1 15 [some (.ref 74), some (.int (nI e)), some (.int acc), some (.int (nI k)), some (.int (nI j))] [] h Q := by
  intro m
  induction m with
  | zero =>
    intro j acc hj K
    rw [List.drop_eq_nil_of_le (by omega)] at K
    refine r_iload_4 dX8_ringsOf_15 ?_
    refine r_aload_0 dX8_ringsOf_17 ?_
    refine r_getR (a := 90) dX8_ringsOf_18 fl_X8_62 rfl rfl ?_
    refine r_iload_3 dX8_ringsOf_21 ?_
    refine r_ialdN dX8_ringsOf_22 rfl (by omega) ?_
    rw [ra.1]
    refine r_icmpN_ge 56 dX8_ringsOf_23 (by decide) (by omega) (by omega) (fun c_23 => ?_) (fun c_23 => by omega)
    refine RT.sub (lv' := [some (.ref 74), some (.int (nI e)), some (.int acc), some (.int (nI k)), none]) (by simp [lsub]) ?_
    exact K
  | succ m ih =>
    intro j acc hj K
    have hjl : j < L.length := by omega
    have hr := ra.2 j hjl
    have hq := hm _ (gq_mem hjl)
    rw [drop_gq hjl, List.foldl_cons] at K
    refine r_iload_4 dX8_ringsOf_15 ?_
    refine r_aload_0 dX8_ringsOf_17 ?_
    refine r_getR (a := 90) dX8_ringsOf_18 fl_X8_62 rfl rfl ?_
    refine r_iload_3 dX8_ringsOf_21 ?_
    refine r_ialdN dX8_ringsOf_22 rfl (by omega) ?_
    rw [ra.1]
    refine r_icmpN_ge 56 dX8_ringsOf_23 (by decide) (by omega) (by omega) (fun c_23 => by omega) (fun c_23 => ?_)
    refine r_iload_2 dX8_ringsOf_26 ?_
    refine r_aload_0 dX8_ringsOf_27 ?_
    refine r_getR (a := 88) dX8_ringsOf_28 fl_X8_56 rfl rfl ?_
    refine r_bipush (v := nI 14) dX8_ringsOf_31 (by decide) ?_
    refine r_iload_3 dX8_ringsOf_33 ?_
    refine r_imul dX8_ringsOf_34 ?_
    refine r_iload_4 dX8_ringsOf_35 ?_
    refine r_iadd dX8_ringsOf_37 ?_
    rw [pk_mul, nI_add]
    refine r_ialdN dX8_ringsOf_38 rfl (by omega) ?_
    rw [hr.1]
    refine r_iload_1 dX8_ringsOf_39 ?_
    refine r_icmpN_ne 47 dX8_ringsOf_40 (by decide) (by omega) (by omega) (fun c_40 => ?_) (fun c_40 => ?_)
    · refine r_iconst (v := 0) dX8_ringsOf_47 (by decide) ?_
      refine r_iadd dX8_ringsOf_48 ?_
      refine r_istore_2 dX8_ringsOf_49 ?_
      refine r_iincN_4 dX8_ringsOf_50 ?_
      refine r_goto 15 dX8_ringsOf_53 (by decide) ?_
      first | (rw [if_pos c_40] at K; exact ih (j + 1) _ (by omega) K) | (rw [if_neg c_40] at K; rw [Int32.add_zero]; exact ih (j + 1) _ (by omega) K)
    · refine r_iconst (v := 1) dX8_ringsOf_43 (by decide) ?_
      refine r_goto 48 dX8_ringsOf_44 (by decide) ?_
      refine r_iadd dX8_ringsOf_48 ?_
      refine r_istore_2 dX8_ringsOf_49 ?_
      refine r_iincN_4 dX8_ringsOf_50 ?_
      refine r_goto 15 dX8_ringsOf_53 (by decide) ?_
      first | (rw [if_pos c_40] at K; exact ih (j + 1) _ (by omega) K) | (rw [if_neg c_40] at K; rw [Int32.add_zero]; exact ih (j + 1) _ (by omega) K)
set_option maxRecDepth 100000 in
set_option maxHeartbeats 4000000 in
theorem mthr_out {h : PH} {e : Nat} (he : e < 14) {R : List RG} (rc : RingsM h R) (h14 : R.length ≤ 14) (h9 : ∀ L ∈ R, L.length ≤ 9) (hm : ∀ L ∈ R, ∀ q ∈ L, q.1 < 14) : ∀ (m k : Nat) (acc : Int32), k + m = R.length → RT mX8_ringsOf 1 4 [some (.ref 74), some (.int (nI e)), some (.int acc), some (.int (nI k)), none] [] h (fun a b => a = some (.int (ctS e (R.drop k) acc)) ∧ b = h) := by
  intro m
  induction m with
  | zero =>
    intro k acc hk
    refine r_iload_3 dX8_ringsOf_4 ?_
    refine r_aload_0 dX8_ringsOf_5 ?_
    refine r_getI dX8_ringsOf_6 fl_X8_288 rfl ?_
    rw [rc.1]
    refine r_icmpN_ge 62 dX8_ringsOf_9 (by decide) (by omega) (by omega) (fun c_9 => ?_) (fun c_9 => by omega)
    refine r_iload_2 dX8_ringsOf_62 ?_
    refine r_iret dX8_ringsOf_63 rfl ?_
    exact ⟨by rw [List.drop_eq_nil_of_le (by omega)]; rfl, rfl⟩
  | succ m ih =>
    intro k acc hk
    have hkl : k < R.length := by omega
    have hL : R.getD k [] ∈ R := by rw [List.getD_eq_getElem?_getD, List.getElem?_eq_getElem hkl]; exact List.getElem_mem _
    have hdrop : R.drop k = R.getD k [] :: R.drop (k + 1) := by
      rw [List.drop_eq_getElem_cons hkl, List.getD_eq_getElem?_getD, List.getElem?_eq_getElem hkl]; rfl
    rw [hdrop]
    show RT _ _ _ _ _ _ (fun a b => a = some (.int (ctS e (R.drop (k + 1)) ((R.getD k []).foldl (fun a q => if q.1 = e then a + 1 else a) acc))) ∧ b = h)
    refine r_iload_3 dX8_ringsOf_4 ?_
    refine r_aload_0 dX8_ringsOf_5 ?_
    refine r_getI dX8_ringsOf_6 fl_X8_288 rfl ?_
    rw [rc.1]
    refine r_icmpN_ge 62 dX8_ringsOf_9 (by decide) (by omega) (by omega) (fun c_9 => by omega) (fun c_9 => ?_)
    refine r_iconst (v := nI 0) dX8_ringsOf_12 (by decide) ?_
    refine r_istore_4 dX8_ringsOf_13 ?_
    refine mthr_in he (by omega) (rc.2 k hkl) (h9 _ hL) (hm _ hL) (R.getD k []).length 0 acc (by omega) ?_
    rw [List.drop_zero]
    refine r_iincN_3 dX8_ringsOf_56 ?_
    refine r_goto 4 dX8_ringsOf_59 (by decide) ?_
    exact ih (k + 1) _ (by omega)
set_option maxRecDepth 100000 in
set_option maxHeartbeats 4000000 in
theorem q_ringsOf {h : PH} {e : Nat} (he : e < 14) {R : List RG} (rc : RingsM h R) (h14 : R.length ≤ 14) (h9 : ∀ L ∈ R, L.length ≤ 9) (hm : ∀ L ∈ R, ∀ q ∈ L, q.1 < 14) : ConF mX8_ringsOf 1 [.ref 74, .int (nI e)] h (some (.int (ctS e R 0))) h := by
  refine Con.mk (by decide) ?_
  show RT _ _ 0 [some (.ref 74), some (.int (nI e)), none, none, none] [] _ _
  refine r_iconst (v := 0) dX8_ringsOf_0 (by decide) ?_
  refine r_istore_2 dX8_ringsOf_1 ?_
  refine r_iconst (v := nI 0) dX8_ringsOf_2 (by decide) ?_
  refine r_istore_3 dX8_ringsOf_3 ?_
  exact mthr_out he rc h14 h9 hm R.length 0 0 (by omega)

