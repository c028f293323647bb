/-! ===== small words of the specification, and rules that join two instructions ===== -/
section RTL
variable {M : MI} {dp pc : Nat} {lv : List (Option Value)} {st : List Value} {h : PH} {Q : Option Value → PH → Prop}
theorem r_lif_eq {x y : Int64} {off : Int} (tgt : Nat) (hd : decode M.2.1 pc = .ok (.lcmp, 1)) (hd2 : decode M.2.1 (pc + 1) = .ok (.ifCond .eq off, 3)) (ht : ((pc + 1 : Nat) : Int) + off = (tgt : Int)) (kt : x = y → RT M dp tgt lv st h Q) (kf : ¬ (x = y) → RT M dp (pc + 4) lv st h Q) : RT M dp pc lv (.long y :: .long x :: st) h Q := r_lcmp hd (r_if_eq tgt hd2 ht (fun q => kt ((lg_cmp_eq _ _).mp q)) (fun q => kf (fun e => q ((lg_cmp_eq _ _).mpr e))))
theorem r_lif_ne {x y : Int64} {off : Int} (tgt : Nat) (hd : decode M.2.1 pc = .ok (.lcmp, 1)) (hd2 : decode M.2.1 (pc + 1) = .ok (.ifCond .ne off, 3)) (ht : ((pc + 1 : Nat) : Int) + off = (tgt : Int)) (kt : ¬ x = y → RT M dp tgt lv st h Q) (kf : x = y → RT M dp (pc + 4) lv st h Q) : RT M dp pc lv (.long y :: .long x :: st) h Q := r_lcmp hd (r_if_ne tgt hd2 ht (fun q => kt (fun e => q ((lg_cmp_eq _ _).mpr e))) (fun q => kf ((lg_cmp_eq _ _).mp q)))
theorem r_lif_lt {x y : Int64} {off : Int} (tgt : Nat) (hd : decode M.2.1 pc = .ok (.lcmp, 1)) (hd2 : decode M.2.1 (pc + 1) = .ok (.ifCond .lt off, 3)) (ht : ((pc + 1 : Nat) : Int) + off = (tgt : Int)) (kt : x < y → RT M dp tgt lv st h Q) (kf : ¬ (x < y) → RT M dp (pc + 4) lv st h Q) : RT M dp pc lv (.long y :: .long x :: st) h Q := r_lcmp hd (r_if_lt tgt hd2 ht (fun q => kt ((lg_cmp_lt _ _).mp q)) (fun q => kf (fun e => q ((lg_cmp_lt _ _).mpr e))))
theorem r_lif_ge {x y : Int64} {off : Int} (tgt : Nat) (hd : decode M.2.1 pc = .ok (.lcmp, 1)) (hd2 : decode M.2.1 (pc + 1) = .ok (.ifCond .ge off, 3)) (ht : ((pc + 1 : Nat) : Int) + off = (tgt : Int)) (kt : y ≤ x → RT M dp tgt lv st h Q) (kf : ¬ (y ≤ x) → RT M dp (pc + 4) lv st h Q) : RT M dp pc lv (.long y :: .long x :: st) h Q := r_lcmp hd (r_if_ge tgt hd2 ht (fun q => kt ((lg_cmp_ge _ _).mp q)) (fun q => kf (fun e => q ((lg_cmp_ge _ _).mpr e))))
theorem r_lif_gt {x y : Int64} {off : Int} (tgt : Nat) (hd : decode M.2.1 pc = .ok (.lcmp, 1)) (hd2 : decode M.2.1 (pc + 1) = .ok (.ifCond .gt off, 3)) (ht : ((pc + 1 : Nat) : Int) + off = (tgt : Int)) (kt : y < x → RT M dp tgt lv st h Q) (kf : ¬ (y < x) → RT M dp (pc + 4) lv st h Q) : RT M dp pc lv (.long y :: .long x :: st) h Q := r_lcmp hd (r_if_gt tgt hd2 ht (fun q => kt ((lg_cmp_gt _ _).mp q)) (fun q => kf (fun e => q ((lg_cmp_gt _ _).mpr e))))
theorem r_lif_le {x y : Int64} {off : Int} (tgt : Nat) (hd : decode M.2.1 pc = .ok (.lcmp, 1)) (hd2 : decode M.2.1 (pc + 1) = .ok (.ifCond .le off, 3)) (ht : ((pc + 1 : Nat) : Int) + off = (tgt : Int)) (kt : x ≤ y → RT M dp tgt lv st h Q) (kf : ¬ (x ≤ y) → RT M dp (pc + 4) lv st h Q) : RT M dp pc lv (.long y :: .long x :: st) h Q := r_lcmp hd (r_if_le tgt hd2 ht (fun q => kt ((lg_cmp_le _ _).mp q)) (fun q => kf (fun e => q ((lg_cmp_le _ _).mpr e))))
end RTL
/-- a truth as the machine has it -/
def b2i (c : Prop) [Decidable c] : Int32 := if c then 1 else 0
theorem b2i_t {c : Prop} [Decidable c] (h : c) : b2i c = 1 := if_pos h
theorem b2i_f {c : Prop} [Decidable c] (h : ¬ c) : b2i c = 0 := if_neg h
theorem b2i_ne {c : Prop} [Decidable c] : ¬ b2i c = 0 ↔ c := by
  by_cases h : c
  · simp [b2i, h]
  · simp [b2i, h]
theorem b2i_eq {c : Prop} [Decidable c] : b2i c = 0 ↔ ¬ c := by
  by_cases h : c
  · simp [b2i, h]
  · simp [b2i, h]
theorem b2i_1 {c : Prop} [Decidable c] : b2i c = 1 ↔ c := by
  by_cases h : c
  · simp [b2i, h]
  · simp [b2i, h]
theorem b2i_or {c : Prop} [Decidable c] : b2i c = 0 ∨ b2i c = 1 := by
  by_cases h : c
  · simp [b2i, h]
  · simp [b2i, h]
/-- place j of a row of bits -/
theorem bit_eq (b : Int32) {j : Nat} (hj : j < 32) : (b >>> (nI j &&& 31)) &&& 1 = b2i (bt b j = true) := by
  apply b_ext
  intro i hi
  rw [b_and, b_sshr j hj b hi]
  have h1 : bt (1 : Int32) i = decide (i = 0) := (by decide +kernel : ∀ i, i < 32 → bt (1 : Int32) i = decide (i = 0)) i hi
  rw [h1]
  by_cases hb : bt b j = true
  · rw [b2i_t hb, h1]
    by_cases e : i = 0
    · subst e; simp [hj, hb]
    · simp [e]
  · rw [b2i_f hb, b_0]
    by_cases e : i = 0
    · subst e; simp [hj]; simpa using hb
    · simp [e]
theorem b_one {j : Nat} (hj : j < 32) {i : Nat} (hi : i < 32) : bt ((1 : Int32) <<< (nI j &&& 31)) i = decide (i = j) := by
  rw [b_shl j hj _ hi]
  rcases Nat.lt_or_ge i j with h | h
  · simp [Nat.not_le.mpr h]; omega
  · have h1 : bt (1 : Int32) (i - j) = decide (i - j = 0) := (by decide +kernel : ∀ i, i < 32 → bt (1 : Int32) i = decide (i = 0)) (i - j) (by omega)
    rw [h1]; simp [h]; omega
theorem b_set (b : Int32) {j : Nat} (hj : j < 32) {i : Nat} (hi : i < 32) : bt (b ||| ((1 : Int32) <<< (nI j &&& 31))) i = (bt b i || decide (i = j)) := by rw [b_or, b_one hj hi]
theorem b_flip (b : Int32) {j : Nat} (hj : j < 32) {i : Nat} (hi : i < 32) : bt (b ^^^ ((1 : Int32) <<< (nI j &&& 31))) i = (bt b i ^^ decide (i = j)) := by rw [b_xor, b_one hj hi]
theorem b_not (b : Int32) {i : Nat} (hi : i < 32) : bt (b ^^^ (-1)) i = !bt b i := by rw [b_xor, b_m1 i hi]; simp
/-- the first j from a place on with a property, within m steps -/
def fnd (p : Nat → Bool) : Nat → Nat → Option Nat
  | _, 0 => none
  | j, m + 1 => if p j then some j else fnd p (j + 1) m
def oI (o : Option Nat) : Int32 := match o with | some j => nI j | none => -1
theorem fnd_lt {p : Nat → Bool} : ∀ {m j r : Nat}, fnd p j m = some r → j ≤ r ∧ r < j + m ∧ p r = true
  | 0, _, _, h => by simp [fnd] at h
  | m + 1, j, r, h => by
    unfold fnd at h
    split at h
    · next hp => cases h; exact ⟨Nat.le_refl _, by omega, hp⟩
    · have := fnd_lt h; exact ⟨by omega, by omega, this.2.2⟩
theorem fnd_cong {p q : Nat → Bool} : ∀ {m j : Nat}, (∀ i, j ≤ i → i < j + m → p i = q i) → fnd p j m = fnd q j m
  | 0, _, _ => rfl
  | m + 1, j, h => by
    unfold fnd
    rw [h j (Nat.le_refl _) (by omega), fnd_cong (m := m) (fun i h1 h2 => h i (by omega) (by omega))]
/-- LIFT and LOSS, STEEP, by a flow -/
def kS (f : Int64) : Int64 := if f < 0 then 0 else f / 10
def liftS (lc : Int32) (lf : Nat → Int32) (f : Int64) : Int64 := if kS f < lc.toInt64 then 100 * (lf (kS f).toInt32.toNatClampNeg).toInt64 else 0
def lossS (kd rs lc : Int32) (lf : Nat → Int32) (f : Int64) : Int64 := if kd = 2 then -(liftS lc lf f) else if f < 0 then -(rs.toInt64 * f * f) else rs.toInt64 * f * f
def steepS (kd rs : Int32) (f : Int64) : Int64 := if kd = 2 then 1 else rs.toInt64 * (2 * (if f < 0 then -f else f) + 1)

