/-! ===== reading: tokens ===== -/
abbrev TK : Type := Nat × Nat × Nat
def isL (c : Nat) : Bool := decide (97 ≤ c) && decide (c ≤ 122)
def isD (c : Nat) : Bool := decide (48 ≤ c) && decide (c ≤ 57)
def isSp (c : Nat) : Bool := decide (c = 32)
def runS (p : Nat → Bool) (B : Nat → Nat) : Nat → Nat → Nat
  | 0, q => q
  | m + 1, q => if p (B q) = true then runS p B m (q + 1) else q
theorem runS_b {p : Nat → Bool} {B : Nat → Nat} : ∀ m q, q ≤ runS p B m q ∧ runS p B m q ≤ q + m := by
  intro m
  induction m with
  | zero => intro q; exact ⟨Nat.le_refl _, Nat.le_refl _⟩
  | succ m ih =>
    intro q
    unfold runS
    split
    · have := ih (q + 1); omega
    · omega
theorem runS_in {p : Nat → Bool} {B : Nat → Nat} : ∀ m q i, q ≤ i → i < runS p B m q → p (B i) = true := by
  intro m
  induction m with
  | zero => intro q i h1 h2; unfold runS at h2; omega
  | succ m ih =>
    intro q i h1 h2
    unfold runS at h2
    split at h2
    · next hp =>
      by_cases e : i = q
      · rw [e]; exact hp
      · exact ih (q + 1) i (by omega) h2
    · omega
theorem runS_1 {p : Nat → Bool} {B : Nat → Nat} {m q : Nat} (h : p (B q) = true) : q + 1 ≤ runS p B (m + 1) q := by
  unfold runS; rw [if_pos h]; exact (runS_b m (q + 1)).1
def tkA (B : Nat → Nat) (n s : Nat) : TK := if s < n then (if isL (B s) = true then (if runS isL B (n - s) s - s ≤ 6 then 1 else 5, s, runS isL B (n - s) s) else if isD (B s) = true then (if runS isD B (n - s) s - s ≤ 3 then 2 else 5, s, runS isD B (n - s) s) else (if B s = 59 then 3 else if B s = 44 then 4 else 5, s, s + 1)) else (0, s, s)
def tkS (B : Nat → Nat) (n q : Nat) : TK := tkA B n (runS isSp B (n - q) q)
def TKok (n : Nat) (k : TK) : Prop := k.2.1 ≤ k.2.2 ∧ k.2.2 ≤ n ∧ (k.1 ≠ 0 → k.2.1 < k.2.2) ∧ k.1 ≤ 5
theorem tkA_ok {B : Nat → Nat} {n s : Nat} (hs : s ≤ n) : TKok n (tkA B n s) ∧ (tkA B n s).2.1 = s := by
  unfold tkA
  by_cases h1 : s < n
  · rw [if_pos h1]
    obtain ⟨m, hm⟩ : ∃ m, n - s = m + 1 := ⟨n - s - 1, by omega⟩
    by_cases h2 : isL (B s) = true
    · rw [if_pos h2]
      have b := runS_b (p := isL) (B := B) (n - s) s
      have c := runS_1 (m := m) h2
      rw [← hm] at c
      refine ⟨⟨b.1, by have := b.2; simp only; omega, fun _ => by simp only; omega, ?_⟩, rfl⟩
      simp only; split <;> omega
    · rw [if_neg h2]
      by_cases h3 : isD (B s) = true
      · rw [if_pos h3]
        have b := runS_b (p := isD) (B := B) (n - s) s
        have c := runS_1 (m := m) h3
        rw [← hm] at c
        refine ⟨⟨b.1, by have := b.2; simp only; omega, fun _ => by simp only; omega, ?_⟩, rfl⟩
        simp only; split <;> omega
      · rw [if_neg h3]
        refine ⟨⟨by simp only; omega, by simp only; omega, fun _ => by simp only; omega, ?_⟩, rfl⟩
        simp only
        split
        · omega
        · split <;> omega
  · rw [if_neg h1]
    exact ⟨⟨Nat.le_refl _, hs, fun q => absurd rfl q, (show 0 ≤ 5 by decide)⟩, rfl⟩
theorem tkS_ok {B : Nat → Nat} {n q : Nat} (hq : q ≤ n) : TKok n (tkS B n q) ∧ q ≤ (tkS B n q).2.1 := by
  have b := runS_b (p := isSp) (B := B) (n - q) q
  have h := tkA_ok (B := B) (n := n) (s := runS isSp B (n - q) q) (by omega)
  exact ⟨h.1, by unfold tkS; rw [h.2]; exact b.1⟩
/-- what a token is when it is a word, a whole number -/
theorem tkA_1 {B : Nat → Nat} {n s : Nat} (h : (tkA B n s).1 = 1) : (tkA B n s).2.2 - (tkA B n s).2.1 ≤ 6 ∧ (∀ i, (tkA B n s).2.1 ≤ i → i < (tkA B n s).2.2 → isL (B i) = true) ∧ (tkA B n s).2.1 < n := by
  unfold tkA at h ⊢
  by_cases h1 : s < n
  · rw [if_pos h1] at h ⊢
    by_cases h2 : isL (B s) = true
    · rw [if_pos h2] at h ⊢
      by_cases h3 : runS isL B (n - s) s - s ≤ 6
      · exact ⟨h3, fun i a b => runS_in _ _ _ a b, h1⟩
      · rw [if_neg h3] at h; exact absurd h (show ¬ (5 = 1) by decide)
    · rw [if_neg h2] at h
      by_cases h3 : isD (B s) = true
      · rw [if_pos h3] at h; simp only at h; split at h <;> omega
      · rw [if_neg h3] at h
        simp only at h
        split at h
        · omega
        · split at h <;> omega
  · rw [if_neg h1] at h; exact absurd h (show ¬ (0 = 1) by decide)
theorem tkA_3 {B : Nat → Nat} {n s : Nat} (h : (tkA B n s).1 ≠ 0) : (tkA B n s).2.1 < n := by
  unfold tkA at h ⊢
  by_cases h1 : s < n
  · rw [if_pos h1] at h ⊢
    split
    · exact h1
    · split
      · exact h1
      · exact h1
  · rw [if_neg h1] at h; exact absurd rfl h
def wdL (B : Nat → Nat) (s e : Nat) : List Nat := (List.range (e - s)).map (fun i => B (s + i))
def wd (B : Nat → Nat) (k : TK) : List Nat := wdL B k.2.1 k.2.2
def wvE (B : Nat → Nat) (s : Nat) : Nat → Int32
  | 0 => 0
  | m + 1 => 10 * wvE B s m + nI (B (s + m)) - 48
def wv (B : Nat → Nat) (k : TK) : Int32 := wvE B k.2.1 (k.2.2 - k.2.1)
def sB (b : Nat) : Int32 := (nI b).toInt8.toInt32
theorem sB_L {b : Nat} (h : b < 256) : ((97 : Int32) ≤ sB b ∧ sB b ≤ 122) ↔ isL b = true := (by decide +kernel : ∀ b, b < 256 → (((97 : Int32) ≤ sB b ∧ sB b ≤ 122) ↔ isL b = true)) b h
theorem sB_D {b : Nat} (h : b < 256) : ((48 : Int32) ≤ sB b ∧ sB b ≤ 57) ↔ isD b = true := (by decide +kernel : ∀ b, b < 256 → (((48 : Int32) ≤ sB b ∧ sB b ≤ 57) ↔ isD b = true)) b h
theorem sB_c {b : Nat} (h : b < 256) : (sB b = 32 ↔ b = 32) ∧ (sB b = 59 ↔ b = 59) ∧ (sB b = 44 ↔ b = 44) := (by decide +kernel : ∀ b, b < 256 → ((sB b = 32 ↔ b = 32) ∧ (sB b = 59 ↔ b = 59) ∧ (sB b = 44 ↔ b = 44))) b h
theorem sB_d {b : Nat} (h : isD b = true) : sB b = nI b := by
  have : 48 ≤ b ∧ b ≤ 57 := by unfold isD at h; simp at h; exact h
  exact (by decide +kernel : ∀ b, b < 58 → sB b = nI b) b (by omega)
theorem sB_l {b : Nat} (h : isL b = true) : sB b = nI b ∧ b < 256 ∧ 97 ≤ b ∧ b ≤ 122 := by
  have : 97 ≤ b ∧ b ≤ 122 := by unfold isL at h; simp at h; exact h
  exact ⟨(by decide +kernel : ∀ b, b < 123 → sB b = nI b) b (by omega), by omega, this⟩
theorem nB_c {b : Nat} (h : b < 256) : (nI b = 32 ↔ b = 32) ∧ (nI b = 59 ↔ b = 59) ∧ (nI b = 44 ↔ b = 44) ∧ ¬ nI b = -1 := (by decide +kernel : ∀ b, b < 256 → ((nI b = 32 ↔ b = 32) ∧ (nI b = 59 ↔ b = 59) ∧ (nI b = 44 ↔ b = 44) ∧ ¬ nI b = -1)) b h
theorem nB_L {b : Nat} (h : b < 256) : ((97 : Int32) ≤ nI b ∧ nI b ≤ 122) ↔ isL b = true := (by decide +kernel : ∀ b, b < 256 → (((97 : Int32) ≤ nI b ∧ nI b ≤ 122) ↔ isL b = true)) b h
theorem nB_D {b : Nat} (h : b < 256) : ((48 : Int32) ≤ nI b ∧ nI b ≤ 57) ↔ isD b = true := (by decide +kernel : ∀ b, b < 256 → (((48 : Int32) ≤ nI b ∧ nI b ≤ 57) ↔ isD b = true)) b h
/-! packed words -/
def pkE (B : Nat → Nat) (s : Nat) : Nat → Int64
  | 0 => 0
  | m + 1 => (pkE B s m <<< ((8 : Int32).toInt64 &&& 63)) ||| (sB (B (s + m))).toInt64
theorem wdL_s {B : Nat → Nat} {s m : Nat} : wdL B s (s + (m + 1)) = wdL B s (s + m) ++ [B (s + m)] := by
  unfold wdL
  rw [show s + (m + 1) - s = m + 1 by omega, show s + m - s = m by omega, List.range_succ, List.map_append]; rfl
theorem packN_app {L : List Nat} {c : Nat} : packN (L ++ [c]) = 256 * packN L + c := by
  unfold packN; rw [List.foldl_append]; rfl
theorem packN_lt {B : Nat → Nat} {s : Nat} : ∀ m, (∀ i, i < m → B (s + i) < 256) → packN (wdL B s (s + m)) < 256 ^ m := by
  intro m
  induction m with
  | zero => intro _; unfold wdL; rw [show s + 0 - s = 0 by omega]; exact (by decide : packN [] < 256 ^ 0)
  | succ m ih =>
    intro h
    rw [wdL_s, packN_app, Nat.pow_succ]
    have := ih (fun i hi => h i (by omega))
    have := h m (by omega)
    omega
theorem lor8 {a c : Nat} (ha : a < 2 ^ 48) (hc : c < 256) : (lN a <<< ((8 : Int32).toInt64 &&& 63)) ||| (nI c).toInt64 = lN (256 * a + c) := by
  have e1 : ((8 : Int32).toInt64 &&& 63) = 8 := by decide
  have e2 : (nI c).toInt64 = lN c := by
    rw [fa_eq64, toInt64_toInt, nI_toInt (by omega)]
    show (c : Int) = (Int64.ofNat c).toInt
    rw [Int64.toInt_ofNat_of_lt (by omega)]
  rw [e1, e2]
  apply Int64.toBitVec_inj.mp
  rw [Int64.toBitVec_or, Int64.toBitVec_shiftLeft]
  show (BitVec.ofNat 64 a <<< ((8 : Int64).toBitVec.smod 64)) ||| BitVec.ofNat 64 c = BitVec.ofNat 64 (256 * a + c)
  rw [show (8 : Int64).toBitVec.smod 64 = 8#64 by decide]
  apply BitVec.eq_of_toNat_eq
  rw [BitVec.toNat_or, BitVec.shiftLeft_eq', BitVec.toNat_shiftLeft, BitVec.toNat_ofNat, BitVec.toNat_ofNat, BitVec.toNat_ofNat, BitVec.toNat_ofNat]
  rw [show 8 % 2 ^ 64 = 8 by decide, Nat.mod_eq_of_lt (by omega : a < 2 ^ 64), Nat.mod_eq_of_lt (by omega : c < 2 ^ 64), Nat.mod_eq_of_lt (by omega : 256 * a + c < 2 ^ 64), Nat.shiftLeft_eq, Nat.mod_eq_of_lt (by omega : a * 2 ^ 8 < 2 ^ 64), show a * 2 ^ 8 = 2 ^ 8 * a by omega, ← Nat.two_pow_add_eq_or_of_lt (by omega : c < 2 ^ 8)]
theorem pkE_eq {B : Nat → Nat} {s : Nat} : ∀ m, m ≤ 6 → (∀ i, i < m → isL (B (s + i)) = true) → pkE B s m = lN (packN (wdL B s (s + m))) := by
  intro m
  induction m with
  | zero => intro _ _; unfold wdL; rw [show s + 0 - s = 0 by omega]; rfl
  | succ m ih =>
    intro hm h
    have hl := sB_l (h m (by omega))
    have hlt := packN_lt (B := B) (s := s) m (fun i hi => (sB_l (h i (by omega))).2.1)
    have h6 : 256 ^ m ≤ 256 ^ 5 := Nat.pow_le_pow_right (by decide) (by omega)
    show (pkE B s m <<< ((8 : Int32).toInt64 &&& 63)) ||| (sB (B (s + m))).toInt64 = _
    rw [ih (by omega) (fun i hi => h i (by omega)), hl.1, lor8 (by omega) hl.2.1, wdL_s, packN_app]
theorem nil_or_app {α : Type} (L : List α) : L = [] ∨ ∃ L' a, L = L' ++ [a] := by
  rcases List.eq_nil_or_concat L with e | ⟨L', a, e⟩
  · exact Or.inl e
  · exact Or.inr ⟨L', a, by rw [e, List.concat_eq_append]⟩
/-- lists of letters are told apart by what they are packed to -/
def lets (L : List Nat) : Prop := ∀ c ∈ L, 97 ≤ c ∧ c ≤ 122
theorem packN_inj : ∀ (n : Nat) (L M : List Nat), L.length ≤ n → lets L → lets M → packN L = packN M → L = M := by
  intro n
  induction n with
  | zero =>
    intro L M hn hL hM h
    have : L = [] := List.eq_nil_of_length_eq_zero (by omega)
    subst this
    rcases nil_or_app M with e | ⟨M', c, e⟩
    · exact e.symm
    · subst e
      rw [packN_app] at h
      have := hM c (by simp)
      have e0 : packN [] = 0 := rfl
      omega
  | succ n ih =>
    intro L M hn hL hM h
    rcases nil_or_app L with e | ⟨L', a, e⟩
    · subst e
      rcases nil_or_app M with e | ⟨M', c, e⟩
      · exact e.symm
      · subst e
        rw [packN_app] at h
        have := hM c (by simp)
        have e0 : packN [] = 0 := rfl
        omega
    · subst e
      have ha := hL a (by simp)
      rcases nil_or_app M with e | ⟨M', c, e⟩
      · subst e
        rw [packN_app] at h
        have e0 : packN [] = 0 := rfl
        omega
      · subst e
        have hc := hM c (by simp)
        rw [packN_app, packN_app] at h
        have e1 : a = c := by omega
        have e2 : packN L' = packN M' := by omega
        rw [e1, ih L' M' (by simp at hn; omega) (fun x hx => hL x (by simp [hx])) (fun x hx => hM x (by simp [hx])) e2]
theorem lets_lt : ∀ (L : List Nat), lets L → packN L < 256 ^ L.length := by
  have : ∀ (n : Nat) (L : List Nat), L.length = n → lets L → packN L < 256 ^ n := by
    intro n
    induction n with
    | zero => intro L hn _; rw [List.eq_nil_of_length_eq_zero hn]; decide
    | succ n ih =>
      intro L hn hL
      rcases nil_or_app L with e | ⟨L', a, e⟩
      · rw [e] at hn; cases hn
      · subst e
        have := ih L' (by simp at hn; omega) (fun x hx => hL x (by simp [hx]))
        have := hL a (by simp)
        rw [packN_app, Nat.pow_succ]; omega
  exact fun L hL => this L.length L rfl hL
theorem lN_inj {a b : Nat} (ha : a < 2 ^ 63) (hb : b < 2 ^ 63) (h : lN a = lN b) : a = b := by
  rw [fa_eq64] at h
  have e : ∀ x : Nat, x < 2 ^ 63 → (lN x).toInt = (x : Int) := fun x hx => Int64.toInt_ofNat_of_lt hx
  rw [e a ha, e b hb] at h; omega
theorem word_eq {L M : List Nat} (hL : lets L) (hM : lets M) (l6 : L.length ≤ 6) (m6 : M.length ≤ 6) : lN (packN L) = lN (packN M) ↔ L = M := by
  refine ⟨fun h => ?_, fun h => by rw [h]⟩
  have h1 := lets_lt L hL
  have h2 := lets_lt M hM
  have h3 : 256 ^ L.length ≤ 256 ^ 6 := Nat.pow_le_pow_right (by decide) l6
  have h4 : 256 ^ M.length ≤ 256 ^ 6 := Nat.pow_le_pow_right (by decide) m6
  exact packN_inj _ L M (Nat.le_refl _) hL hM (lN_inj (by omega) (by omega) h)
theorem wdL_len {B : Nat → Nat} {s e : Nat} : (wdL B s e).length = e - s := by unfold wdL; simp
theorem wdL_get {B : Nat → Nat} {s e i : Nat} (h : i < e - s) : (wdL B s e).getD i 0 = B (s + i) := by
  unfold wdL
  rw [List.getD_eq_getElem?_getD, List.getElem?_map, List.getElem?_range h]; rfl
theorem wdL_lets {B : Nat → Nat} {s e : Nat} (h : ∀ i, s ≤ i → i < e → isL (B i) = true) : lets (wdL B s e) := by
  intro c hc
  unfold wdL at hc
  obtain ⟨i, hi, rfl⟩ := List.mem_map.mp hc
  have := List.mem_range.mp hi
  exact (sB_l (h (s + i) (by omega) (by omega))).2.2
def tkW (k : TK) (B : Nat → Nat) : Prop := k.1 = 1 → k.2.2 - k.2.1 ≤ 6 ∧ (∀ i, k.2.1 ≤ i → i < k.2.2 → isL (B i) = true)
theorem tkS_w {B : Nat → Nat} {n q : Nat} : tkW (tkS B n q) B := fun h => ⟨(tkA_1 h).1, (tkA_1 h).2.1⟩
theorem wd_lets {B : Nat → Nat} {k : TK} (w : tkW k B) (h : k.1 = 1) : lets (wd B k) ∧ (wd B k).length ≤ 6 := ⟨wdL_lets (w h).2, by unfold wd; rw [wdL_len]; exact (w h).1⟩
