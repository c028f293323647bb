/-! ===== bounds: no flow, loss or steep comes near the ends of a long ===== -/
def FBd (B : Nat) (fl : FL) : Prop := ∀ e, -(B : Int) ≤ (fl e).toInt ∧ (fl e).toInt ≤ B
theorem FBd.mono {A B : Nat} {fl : FL} (h : FBd A fl) (hab : A ≤ B) : FBd B fl := fun e => ⟨by have := (h e).1; omega, by have := (h e).2; omega⟩
theorem FBd.upd {B : Nat} {fl : FL} (h : FBd B fl) {k : Nat} {x : Int64} (hx : -(B : Int) ≤ x.toInt ∧ x.toInt ≤ B) : FBd B (fupd fl k x) := fun e => by
  by_cases q : e = k
  · subst q; rw [fupd_s]; exact hx
  · rw [fupd_n q]; exact h e
theorem way_mul {w : Int32} (hw : w = 1 ∨ w = -1) {x : Int64} {B : Nat} (hB : B < 2 ^ 60) (hx : -(B : Int) ≤ x.toInt ∧ x.toInt ≤ B) : (w.toInt64 * x).toInt = w.toInt * x.toInt ∧ -(B : Int) ≤ (w.toInt64 * x).toInt ∧ (w.toInt64 * x).toInt ≤ B := by
  rcases hw with rfl | rfl
  · have e1 : ((1 : Int32).toInt64).toInt = 1 := by decide +kernel
    have e3 : (1 : Int32).toInt = 1 := by decide +kernel
    have e2 := fb_mulL (x := (1 : Int32).toInt64) (y := x) (by rw [e1]; omega) (by rw [e1]; omega)
    rw [e2, e1, e3]; exact ⟨rfl, by omega, by omega⟩
  · have e1 : ((-1 : Int32).toInt64).toInt = -1 := by decide +kernel
    have e3 : (-1 : Int32).toInt = -1 := by decide +kernel
    have e2 := fb_mulL (x := (-1 : Int32).toInt64) (y := x) (by rw [e1]; omega) (by rw [e1]; omega)
    rw [e2, e1, e3]; exact ⟨rfl, by omega, by omega⟩
theorem clampS_b (x : Int64) : -(1000 : Int) ≤ (clampS x).toInt ∧ (clampS x).toInt ≤ 1000 := by
  have e1 : (1000 : Int64).toInt = 1000 := by decide +kernel
  have e2 : (-1000 : Int64).toInt = -1000 := by decide +kernel
  unfold clampS
  split
  · rw [e1]; omega
  · next h1 =>
    split
    · rw [e2]; omega
    · next h2 => simp only [fa_lt64, e1, e2] at h1 h2; omega
theorem lessS_b {st : Int64} (hst : -(1000 : Int) ≤ st.toInt ∧ st.toInt ≤ 1000) : ∀ (r : RG) (fl : FL) (B : Nat), FBd B fl → (∀ q ∈ r, q.2 = 1 ∨ q.2 = -1) → B + 1000 * r.length < 2 ^ 60 → FBd (B + 1000 * r.length) (lessS fl r st)
  | [], fl, B, h, _, _ => h.mono (by omega)
  | q :: r, fl, B, h, hw, hB => by
    have hl : (q :: r).length = r.length + 1 := rfl
    have h1 := way_mul (hw q List.mem_cons_self) (B := 1000) (by decide +kernel) ⟨by have := hst.1; omega, by have := hst.2; omega⟩
    have h2 := fb_subL (x := fl q.1) (y := q.2.toInt64 * st) (by have := h q.1; omega) (by have := h q.1; omega)
    have h3 : FBd (B + 1000) (fupd fl q.1 (fl q.1 - q.2.toInt64 * st)) := (h.mono (by omega)).upd (by rw [h2]; have := h q.1; omega)
    have := lessS_b hst r _ (B + 1000) h3 (fun x hx => hw x (List.mem_cons_of_mem _ hx)) (by omega)
    refine FBd.mono this (by omega)
theorem swp_b {ls sp : Nat → Int64 → Int64} : ∀ (rs : List RG) (x : FL × Bool) (B : Nat), FBd B x.1 → (∀ r ∈ rs, r.length ≤ 9 ∧ ∀ q ∈ r, q.2 = 1 ∨ q.2 = -1) → B + 9000 * rs.length < 2 ^ 60 → FBd (B + 9000 * rs.length) (rs.foldl (swp1 ls sp) x).1
  | [], x, B, h, _, _ => h.mono (by omega)
  | r :: rs, x, B, h, hr, hB => by
    have hl : (r :: rs).length = rs.length + 1 := rfl
    have h9 := (hr r List.mem_cons_self).1
    have h1 := lessS_b (clampS_b (nearS (rSum ls x.1 r) (rStp sp x.1 r))) r x.1 B h (hr r List.mem_cons_self).2 (by omega)
    exact FBd.mono (swp_b rs (swp1 ls sp x r) (B + 9000) (h1.mono (by omega)) (fun r' hr' => hr r' (List.mem_cons_of_mem _ hr')) (by omega)) (by omega)
theorem itr_b {ls sp : Nat → Int64 → Int64} {rs : List RG} (hr : ∀ r ∈ rs, r.length ≤ 9 ∧ ∀ q ∈ r, q.2 = 1 ∨ q.2 = -1) (h14 : rs.length ≤ 14) {f : FL} {B : Nat} (h : FBd B f) (hB : B < 2 ^ 40) : ∀ n, n ≤ 1000 → FBd (B + 126000 * n) (itr (fun x => (swp ls sp rs x).1) n f)
  | 0, _ => h.mono (by omega)
  | n + 1, hn => by
    rw [itr_succ]
    have ih := itr_b (ls := ls) (sp := sp) hr h14 h hB n (by omega)
    exact FBd.mono (swp_b rs (_, false) (B + 126000 * n) ih hr (by omega)) (by omega)
/-- edges out of the net, edges that aren't open or of dry joints, have no flow -/
def LV (g : Nat → Bool) (fl : FL) : Prop := ∀ e, g e = false → fl e = 0
theorem LV.upd {g : Nat → Bool} {fl : FL} (h : LV g fl) {k : Nat} (hk : g k = true) {x : Int64} : LV g (fupd fl k x) := fun e he => by
  rw [fupd_n (fun q => by rw [q, hk] at he; cases he)]; exact h e he
theorem lessS_v {g : Nat → Bool} {st : Int64} : ∀ (r : RG) (fl : FL), LV g fl → (∀ q ∈ r, g q.1 = true) → LV g (lessS fl r st)
  | [], fl, h, _ => h
  | q :: r, fl, h, hg => lessS_v r _ (h.upd (hg q List.mem_cons_self)) (fun x hx => hg x (List.mem_cons_of_mem _ hx))
theorem swp_v {g : Nat → Bool} {ls sp : Nat → Int64 → Int64} : ∀ (rs : List RG) (x : FL × Bool), LV g x.1 → (∀ r ∈ rs, ∀ q ∈ r, g q.1 = true) → LV g (rs.foldl (swp1 ls sp) x).1
  | [], x, h, _ => h
  | r :: rs, x, h, hr => swp_v rs (swp1 ls sp x r) (lessS_v r x.1 h (hr r List.mem_cons_self)) (fun r' hr' => hr r' (List.mem_cons_of_mem _ hr'))
theorem itr_v {g : Nat → Bool} {ls sp : Nat → Int64 → Int64} {rs : List RG} (hr : ∀ r ∈ rs, ∀ q ∈ r, g q.1 = true) {f : FL} (h : LV g f) : ∀ n, LV g (itr (fun x => (swp ls sp rs x).1) n f)
  | 0 => h
  | n + 1 => by rw [itr_succ]; exact swp_v rs (_, false) (itr_v hr h n) hr
/-- flows at BEGIN -/
theorem bgL_b {fi se : Nat → Nat} {s : TS} : ∀ (k : Nat) (x : FL × FL) (B : Nat), FBd B x.1 → FBd B x.2 → B * 2 ^ k < 2 ^ 60 → FBd (B * 2 ^ k) (bgL fi se s k x).1 ∧ FBd (B * 2 ^ k) (bgL fi se s k x).2
  | 0, x, B, h1, h2, _ => ⟨h1.mono (by omega), h2.mono (by omega)⟩
  | k + 1, x, B, h1, h2, hB => by
    have e : B * 2 ^ (k + 1) = (2 * B) * 2 ^ k := by rw [Nat.pow_succ, Nat.mul_comm (2 ^ k) 2, ← Nat.mul_assoc, Nat.mul_comm B 2]
    have hp : 1 ≤ 2 ^ k := Nat.one_le_two_pow
    have hB2 : 2 * B < 2 ^ 60 := Nat.lt_of_le_of_lt (Nat.le_mul_of_pos_right _ hp) (e ▸ hB)
    rw [e]
    refine bgL_b k _ (2 * B) ?_ ?_ (e ▸ hB)
    · refine (h1.mono (by omega)).upd ?_
      have a := h1 (upj fi se s (s.2.1 (k + 1)))
      have b := h1 (s.2.1 (k + 1))
      rw [fb_addL (by omega) (by omega)]
      omega
    · refine (h2.mono (by omega)).upd ?_
      have b := h1 (s.2.1 (k + 1))
      split
      · omega
      · have e0 : -(x.1 (s.2.1 (k + 1))) = 0 - x.1 (s.2.1 (k + 1)) := (Int64.zero_sub _).symm
        have e1 : (0 : Int64).toInt = 0 := by decide +kernel
        rw [e0, fb_subL (by rw [e1]; omega) (by rw [e1]; omega), e1]
        omega
theorem bgL_v {fi se : Nat → Nat} {s : TS} {g : Nat → Bool} : ∀ (k : Nat) (x : FL × FL), (∀ i, 0 < i → i ≤ k → g (pe s (s.2.1 i)) = true) → LV g x.2 → LV g (bgL fi se s k x).2
  | 0, x, _, h => h
  | k + 1, x, hg, h => bgL_v k _ (fun i h0 hi => hg i h0 (by omega)) (h.upd (hg (k + 1) (by omega) (Nat.le_refl _)))
