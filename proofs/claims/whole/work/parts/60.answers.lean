/-! ===== the specification: answers ===== -/
def metI (s : TS) : Int32 := (List.range 32).foldl (fun a i => if s.2.2.2 i = true then a ||| ((1 : Int32) <<< (nI i &&& 31)) else a) 0
theorem metI_b (s : TS) : ∀ n, n ≤ 32 → ∀ i, i < 32 → bt ((List.range n).foldl (fun a i => if s.2.2.2 i = true then a ||| ((1 : Int32) <<< (nI i &&& 31)) else a) 0) i = (decide (i < n) && s.2.2.2 i)
  | 0, _, i, _ => by simp [b_0]
  | n + 1, hn, i, hi => by
    rw [List.range_succ, List.foldl_append]
    simp only [List.foldl_cons, List.foldl_nil]
    have ih := metI_b s n (by omega) i hi
    by_cases q : s.2.2.2 n = true
    · rw [if_pos q, b_set _ (by omega) hi, ih]
      by_cases z : i = n
      · subst z; simp [q]
      · have : decide (i < n + 1) = decide (i < n) := by simp; omega
        rw [this]; simp [z]
    · rw [if_neg q, ih]
      by_cases z : i = n
      · subst z; simp at q; simp [q]
      · have : decide (i < n + 1) = decide (i < n) := by simp; omega
        rw [this]
theorem metI_e {s : TS} {x : Int32} (h : ∀ i, i < 32 → bt x i = s.2.2.2 i) : x = metI s := b_ext (fun i hi => by
  rw [h i hi]; unfold metI; rw [metI_b s 32 (Nat.le_refl _) i hi]; simp [hi])
def dryS (J : Nat) (s : TS) : Int32 := ((1 : Int32) <<< (nI J &&& 31) - 1) &&& (metI s ^^^ -1)
theorem dryS_b {J : Nat} (hJ : J ≤ 9) {s : TS} {i : Nat} (hi : i < 32) : bt (dryS J s) i = (decide (i < J) && !s.2.2.2 i) := by
  unfold dryS
  rw [b_and, b_not _ hi, bits_lt J (by omega) i hi]
  unfold metI
  rw [metI_b s 32 (Nat.le_refl _) i hi]; simp [hi]
theorem dryS_0 {J : Nat} (hJ : J ≤ 9) {s : TS} : dryS J s = 0 ↔ ∀ j, j < J → s.2.2.2 j = true := by
  constructor
  · intro h j hj
    have := dryS_b hJ (s := s) (i := j) (by omega)
    rw [h, b_0] at this
    simpa [hj] using this.symm
  · intro h
    refine b_ext (fun i hi => ?_)
    rw [dryS_b hJ hi, b_0]
    by_cases q : i < J
    · simp [h i q]
    · simp [q]
def accI (f : Nat → Int32) : Nat → Nat → Int32 → Int32
  | 0, _, a => a
  | m + 1, j, a => accI f m (j + 1) (a + f j)
def accL (f : Nat → Int64) : Nat → Nat → Int64 → Int64
  | 0, _, a => a
  | m + 1, j, a => accL f m (j + 1) (a + f j)
theorem accI_cong {f g : Nat → Int32} : ∀ (m j : Nat) (a : Int32), (∀ i, j ≤ i → i < j + m → f i = g i) → accI f m j a = accI g m j a
  | 0, _, _, _ => rfl
  | m + 1, j, a, h => by
    show accI f m (j + 1) (a + f j) = accI g m (j + 1) (a + g j)
    rw [h j (Nat.le_refl _) (by omega)]
    exact accI_cong m (j + 1) _ (fun i h1 h2 => h i (by omega) (by omega))
def sm (f : Nat → Int32) : Nat → Int32
  | 0 => 0
  | n + 1 => sm f n + f n
theorem accI_succ (f : Nat → Int32) : ∀ (m j : Nat) (a : Int32), accI f (m + 1) j a = accI f m j a + f (j + m)
  | 0, _, _ => rfl
  | m + 1, j, a => by
    show accI f (m + 1) (j + 1) (a + f j) = _
    rw [accI_succ f m (j + 1) (a + f j), show j + 1 + m = j + (m + 1) by omega]; rfl
theorem accI_sm (f : Nat → Int32) : ∀ m, accI f m 0 0 = sm f m
  | 0 => rfl
  | m + 1 => by rw [accI_succ, accI_sm f m, Nat.zero_add]; rfl
theorem sm_upd {g : Nat → Int32} {k : Nat} (hk : g k = 0) (v : Int32) : ∀ N, sm (fupd g k v) N = sm g N + (if k < N then v else 0)
  | 0 => by simp [sm]
  | N + 1 => by
    show sm (fupd g k v) N + fupd g k v N = sm g N + g N + _
    rw [sm_upd hk v N]
    by_cases q : N = k
    · subst q; rw [fupd_s, if_neg (by omega), if_pos (by omega), hk, Int32.add_zero]
    · rw [fupd_n q]
      by_cases z : k < N
      · rw [if_pos z, if_pos (by omega), Int32.add_assoc, Int32.add_comm v, ← Int32.add_assoc]
      · rw [if_neg z, if_neg (by omega), Int32.add_zero, Int32.add_zero]
theorem sm_cong {f g : Nat → Int32} : ∀ N, (∀ i, i < N → f i = g i) → sm f N = sm g N
  | 0, _ => rfl
  | N + 1, h => by show sm f N + f N = sm g N + g N; rw [sm_cong N (fun i hi => h i (by omega)), h N (by omega)]
/-- a sum along a row without repeats is a sum over its members -/
theorem sm_row (f : Nat → Int32) (q : Nat → Nat) (B : Nat) : ∀ n, (∀ i, i < n → q i < B) → (∀ i j, i < n → j < n → q i = q j → i = j) → sm (fun i => f (q i)) n = sm (fun j => if (∃ i, i < n ∧ q i = j) then f j else 0) B
  | 0, _, _ => by
    rw [sm_cong (g := fun _ => 0) B (fun i _ => if_neg (fun ⟨x, hx, _⟩ => by omega))]
    show (0 : Int32) = _
    have : ∀ N, sm (fun _ => 0) N = 0 := fun N => by
      induction N with
      | zero => rfl
      | succ N ih => show sm _ N + 0 = 0; rw [ih]; rfl
    rw [this]
  | n + 1, hb, hi => by
    show sm (fun i => f (q i)) n + f (q n) = _
    rw [sm_row f q B n (fun i h => hb i (by omega)) (fun i j h1 h2 => hi i j (by omega) (by omega))]
    have h0 : (fun j => if (∃ i, i < n ∧ q i = j) then f j else 0) (q n) = 0 := if_neg (fun ⟨x, hx, e⟩ => by have := hi x n (by omega) (by omega) e; omega)
    have := sm_upd (g := fun j => if (∃ i, i < n ∧ q i = j) then f j else 0) (k := q n) h0 (f (q n)) B
    rw [if_pos (hb n (by omega))] at this
    rw [← this]
    refine sm_cong B (fun j _ => ?_)
    by_cases z : j = q n
    · rw [z, fupd_s, if_pos ⟨n, by omega, rfl⟩]
    · rw [fupd_n z]
      by_cases y : ∃ i, i < n ∧ q i = j
      · rw [if_pos y, if_pos (by obtain ⟨i, h1, h2⟩ := y; exact ⟨i, by omega, h2⟩)]
      · rw [if_neg y, if_neg (fun ⟨i, h1, h2⟩ => y ⟨i, by
          have : i ≠ n := fun e => z (by rw [← h2, e])
          omega, h2⟩)]
def gvS (t : NT) (s : TS) : Int32 := accI (fun i => NT.dr t (s.2.1 i)) s.1 0 0
theorem accI_tl (f : Nat → Int32) (h0 : f 0 = 0) (m : Nat) : accI f m 1 0 = sm f (m + 1) := by
  rw [← accI_sm]
  show _ = accI f m 1 (0 + f 0)
  rw [h0]; rfl
theorem sm_ext {f : Nat → Int32} {N : Nat} : ∀ M, N ≤ M → (∀ i, N ≤ i → f i = 0) → sm f M = sm f N
  | 0, h, _ => by rw [show N = 0 by omega]
  | M + 1, h, hz => by
    by_cases q : N = M + 1
    · rw [q]
    · show sm f M + f M = _
      rw [hz M (by omega), Int32.add_zero]; exact sm_ext M (by omega) hz
theorem gv_eq {t : NT} (ok : okT t) (sh : Int32) (h0 : NT.dr t 0 = 0) : gvS t (trS (snOf t) sh) = accI (fun j => if (trS (snOf t) sh).2.2.2 j = true then NT.dr t j else 0) (NT.J t - 1) 1 0 := by
  have tw := ok.tw sh
  unfold gvS
  rw [accI_sm, sm_row (NT.dr t) (trS (snOf t) sh).2.1 9 _ (fun i hi => (tw.1 i hi).1) tw.2.1]
  have hJ := ok.1
  have hJ9 := ok.2.1
  have e : ∀ j, (∃ i, i < (trS (snOf t) sh).1 ∧ (trS (snOf t) sh).2.1 i = j) ↔ (trS (snOf t) sh).2.2.2 j = true := fun j => ⟨fun ⟨i, hi, q⟩ => q ▸ (tw.1 i hi).2, fun h => by obtain ⟨i, hi, q, _⟩ := tw.at h; exact ⟨i, hi, q⟩⟩
  have hz : (if (trS (snOf t) sh).2.2.2 0 = true then NT.dr t 0 else 0) = 0 := by split <;> first | exact h0 | rfl
  rw [accI_tl (fun j => if (trS (snOf t) sh).2.2.2 j = true then NT.dr t j else 0) hz, show NT.J t - 1 + 1 = NT.J t by omega]
  rw [← sm_ext 9 hJ9 (f := fun j => if (trS (snOf t) sh).2.2.2 j = true then NT.dr t j else 0) (fun i hi => if_neg (fun q => by have := ok.met sh q; omega))]
  refine sm_cong 9 (fun j _ => ?_)
  by_cases q : (trS (snOf t) sh).2.2.2 j = true
  · rw [if_pos ((e j).mpr q), if_pos q]
  · rw [if_neg (fun z => q ((e j).mp z)), if_neg q]
def prS (t : NT) (hd : FL) (j : Nat) : Int64 := if j = 0 then 0 else hd j - 100 * (NT.ht t j).toInt64
def wkS (t : NT) (s : TS) (hd : FL) : Nat → Nat → Option Nat → Option Nat
  | 0, _, b => b
  | m + 1, j, b => wkS t s hd m (j + 1) (if s.2.2.2 j = true ∧ (b = none ∨ prS t hd j < prS t hd (b.getD 0)) then some j else b)
def wkA (t : NT) (s : TS) (hd : FL) : Option Nat := wkS t s hd (NT.J t - 1) 1 none
def wI (b : Option Nat) : Int32 := match b with | some j => nI j | none => -2
def lpS (t : NT) (s : TS) (hd : FL) : Int64 := match wkA t s hd with | some j => prS t hd j | none => -9223372036854775808
def lpA (t : NT) (s : TS) (hd : FL) : Int64 := if dryS (NT.J t) s = 0 then lpS t s hd else -9223372036854775808
theorem wkS_met {t : NT} {s : TS} {hd : FL} : ∀ (m j : Nat) (b : Option Nat), (∀ k, b = some k → s.2.2.2 k = true ∧ 1 ≤ k) → 1 ≤ j → ∀ k, wkS t s hd m j b = some k → s.2.2.2 k = true ∧ 1 ≤ k
  | 0, _, b, hb, _, k, h => hb k h
  | m + 1, j, b, hb, hj, k, h => by
    refine wkS_met m (j + 1) _ (fun x hx => ?_) (by omega) k h
    by_cases q : s.2.2.2 j = true ∧ (b = none ∨ prS t hd j < prS t hd (b.getD 0))
    · rw [if_pos q] at hx; cases hx; exact ⟨q.1, hj⟩
    · rw [if_neg q] at hx; exact hb x hx
theorem wkS_some {t : NT} {s : TS} {hd : FL} : ∀ (m j : Nat) (b : Option Nat), (b.isSome = true ∨ ∃ i, j ≤ i ∧ i < j + m ∧ s.2.2.2 i = true) → (wkS t s hd m j b).isSome = true
  | 0, j, b, h => by
    rcases h with h | ⟨i, h1, h2, _⟩
    · exact h
    · omega
  | m + 1, j, b, h => by
    refine wkS_some m (j + 1) _ ?_
    by_cases q : s.2.2.2 j = true ∧ (b = none ∨ prS t hd j < prS t hd (b.getD 0))
    · left; rw [if_pos q]; rfl
    · rw [if_neg q]
      rcases h with h | ⟨i, h1, h2, h3⟩
      · exact Or.inl h
      · by_cases z : i = j
        · subst z
          left
          cases b with
          | none => exact absurd ⟨h3, Or.inl rfl⟩ q
          | some _ => rfl
        · exact Or.inr ⟨i, by omega, by omega, h3⟩
theorem wkS_c {t : NT} {s : TS} {hd hd' : FL} (h : ∀ j, s.2.2.2 j = true → hd j = hd' j) : ∀ (m j : Nat) (b : Option Nat), (∀ k, b = some k → s.2.2.2 k = true) → wkS t s hd m j b = wkS t s hd' m j b
  | 0, _, _, _ => rfl
  | m + 1, j, b, hb => by
    have pr : ∀ k, s.2.2.2 k = true → prS t hd k = prS t hd' k := fun k hk => by unfold prS; rw [h k hk]
    have e : (s.2.2.2 j = true ∧ (b = none ∨ prS t hd j < prS t hd (b.getD 0))) ↔ (s.2.2.2 j = true ∧ (b = none ∨ prS t hd' j < prS t hd' (b.getD 0))) := by
      refine and_congr_right (fun hj => ?_)
      cases b with
      | none => simp
      | some k => rw [pr j hj, show (some k).getD 0 = k from rfl, pr k (hb k rfl)]
    show wkS t s hd m (j + 1) _ = wkS t s hd' m (j + 1) _
    simp only [e]
    refine wkS_c h m (j + 1) _ (fun k hk => ?_)
    split at hk
    · rename_i q; cases hk; exact q.1
    · exact hb k hk
def abS (u : Int64) : Int64 := if u < 0 then -u else u
theorem abs_eq (u : Int64) : (if 0 < u then u else -u) = abS u := by
  have e0 : (0 : Int64).toInt = 0 := by decide +kernel
  unfold abS
  by_cases h1 : 0 < u
  · rw [if_pos h1, if_neg (fun h2 => by rw [fa_lt64] at h1 h2; omega)]
  · rw [if_neg h1]
    by_cases h2 : u < 0
    · rw [if_pos h2]
    · have : u = 0 := by rw [fa_lt64] at h1 h2; rw [fa_eq64]; omega
      subst this; rw [if_neg h2]; rfl
def gpS (ls : Nat → Int64 → Int64) (f : FL) (rs : List RG) (a : Int64) : Int64 := rs.foldl (fun a r => if a < abS (rSum ls f r) then abS (rSum ls f r) else a) a
def pwS (t : NT) (f : FL) : Int64 := accL (fun e => if NT.kd t e = 2 then f e * liftS (nI (NT.lc t e)) (NT.lf t e) (f e) else 0) (NT.E t) 0 0
def loS (t : NT) (f : FL) (j : Nat) : Nat → Nat → Int64 → Int64
  | 0, _, a => a
  | m + 1, e, a => loS t f j m (e + 1) (if NT.se t e = j then a + f e else if NT.fi t e = j then a - f e else a)
def eaS (t : NT) (j : Nat) : Nat → Nat → Int32 → Int32
  | 0, _, a => a
  | m + 1, e, a => eaS t j m (e + 1) (if NT.fi t e = j ∨ NT.se t e = j then a ||| ((1 : Int32) <<< (nI e &&& 31)) else a)
def ctS (e : Nat) (rs : List RG) (a : Int32) : Int32 := rs.foldl (fun a r => r.foldl (fun a q => if q.1 = e then a + 1 else a) a) a
/-- joints above a joint that are a given one -/
def abv (fi se : Nat → Nat) (s : TS) (j : Nat) : Nat → Nat → Nat
  | 0, _ => 0
  | n + 1, v => (if upj fi se s v = j then 1 else 0) + abv fi se s j n (upj fi se s v)
def bhS (fi se : Nat → Nat) (s : TS) (j : Nat) : Int32 := accI (fun i => nI (abv fi se s j (dpj fi se s (s.2.1 i)) (s.2.1 i))) s.1 0 0
theorem abv_0 {E : Nat} {fi se : Nat → Nat} {op : Nat → Bool} {s : TS} (tw : TW E fi se op s) (hE : endsOK E fi se) (hE14 : E ≤ 14) (j : Nat) : ∀ (n v : Nat), s.2.2.2 v = true → dpj fi se s v = n → n ≤ dpj fi se s j → abv fi se s j n v = 0
  | 0, _, _, _, _ => rfl
  | n + 1, v, hv, hd, hj => by
    have h0 : v ≠ 0 := fun q => by rw [q, TW.dp0] at hd; omega
    have u := tw.upm hE hE14 hv h0
    have hne : upj fi se s v ≠ j := fun q => by rw [q] at u; omega
    show (if upj fi se s v = j then 1 else 0) + abv fi se s j n (upj fi se s v) = 0
    rw [if_neg hne, abv_0 tw hE hE14 j n _ u.1 (by omega) (by omega)]
theorem abv_1 {E : Nat} {fi se : Nat → Nat} {op : Nat → Bool} {s : TS} (tw : TW E fi se op s) (hE : endsOK E fi se) (hE14 : E ≤ 14) (j : Nat) : ∀ (n v : Nat), s.2.2.2 v = true → dpj fi se s v = n → abv fi se s j n v ≤ 1 ∧ (abv fi se s j n v = 1 → s.2.2.2 j = true)
  | 0, _, _, _ => ⟨Nat.zero_le _, fun h => by cases h⟩
  | n + 1, v, hv, hd => by
    have h0 : v ≠ 0 := fun q => by rw [q, TW.dp0] at hd; omega
    have u := tw.upm hE hE14 hv h0
    show (if upj fi se s v = j then 1 else 0) + abv fi se s j n (upj fi se s v) ≤ 1 ∧ ((if upj fi se s v = j then 1 else 0) + abv fi se s j n (upj fi se s v) = 1 → _)
    by_cases q : upj fi se s v = j
    · rw [if_pos q, abv_0 tw hE hE14 j n _ u.1 (by omega) (by rw [← q]; omega)]
      exact ⟨Nat.le_refl _, fun _ => q ▸ u.1⟩
    · rw [if_neg q, Nat.zero_add]
      exact abv_1 tw hE hE14 j n _ u.1 (by omega)
