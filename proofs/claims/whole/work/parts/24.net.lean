/-! ===== a net that may be solved: what holds of its tree, rings, flows, heads ===== -/
def okN (n : SN) : Prop := SN.E n ≤ 14 ∧ endsOK (SN.E n) (SN.fi n) (SN.se n) ∧ (∀ e, e < SN.E n → ∀ f : Int64, -(16777216 : Int) ≤ f.toInt ∧ f.toInt ≤ 16777216 → 1 ≤ (SN.sp n e f).toInt ∧ (SN.sp n e f).toInt ≤ 1073741824 ∧ -(9007199254740992 : Int) ≤ (SN.ls n e f).toInt ∧ (SN.ls n e f).toInt ≤ 9007199254740992) ∧ (∀ j, -(1000 : Int) ≤ (SN.dr n j).toInt ∧ (SN.dr n j).toInt ≤ 1000) ∧ (0 ≤ (SN.wh n).toInt ∧ (SN.wh n).toInt ≤ 100000)
def gl (n : SN) (sh : Int32) (e : Nat) : Bool := decide (e < SN.E n) && (opS n sh e && (trS n sh).2.2.2 (SN.fi n e))
section OKN
variable {n : SN}
theorem okN.tw (ok : okN n) (sh : Int32) : TW (SN.E n) (SN.fi n) (SN.se n) (opS n sh) (trS n sh) := (tree_ok ok.2.1).1
theorem okN.both (ok : okN n) (sh : Int32) {e : Nat} (he : e < SN.E n) (ho : opS n sh e = true) : (trS n sh).2.2.2 (SN.fi n e) = true ↔ (trS n sh).2.2.2 (SN.se n e) = true := (tree_ok ok.2.1).2 e he ho
theorem okN.ring (ok : okN n) (sh : Int32) {r : RG} (hr : r ∈ rgS n sh) : r ≠ [] ∧ r.length ≤ 9 ∧ (∀ q ∈ r, q.2 = 1 ∨ q.2 = -1) ∧ ∀ q ∈ r, gl n sh q.1 = true := by
  obtain ⟨e, he, h⟩ := List.mem_filterMap.mp hr
  have he := List.mem_range.mp he
  by_cases hc : isRE (SN.fi n) (SN.se n) (opS n sh) (trS n sh) e = true
  · rw [if_pos hc] at h
    cases h
    simp only [isRE, Bool.and_eq_true] at hc
    have h2 := (ok.both sh he hc.1.1).mp hc.1.2
    have := ring_ok (ok.tw sh) ok.2.1 ok.1 he hc.1.1 hc.1.2 h2
    refine ⟨by simp [ringOf], this.1, fun q hq => (this.2 q hq).2.1, fun q hq => ?_⟩
    have z := this.2 q hq
    simp only [gl, Bool.and_eq_true, decide_eq_true_eq]
    exact ⟨z.1, z.2.2.1, z.2.2.2⟩
  · rw [if_neg hc] at h
    cases h
theorem okN.rings (ok : okN n) (sh : Int32) : (rgS n sh).length ≤ 14 := by
  have h : (rgS n sh).length ≤ (List.range (SN.E n)).length := List.length_filterMap_le _ _
  rw [List.length_range] at h
  have := ok.1
  omega
theorem okN.bg (ok : okN n) (sh : Int32) : FBd 256000 (bgS n sh) ∧ LV (gl n sh) (bgS n sh) := by
  have tw := ok.tw sh
  have hc := tw.le
  refine ⟨?_, bgL_v _ _ (fun i h0 hi => ?_) (fun _ _ => rfl)⟩
  · have h1 : FBd 1000 (car0 (SN.dr n)) := fun e => by
      unfold car0
      split
      · have := ok.2.2.2.1 e; exact ⟨by omega, by omega⟩
      · rw [show (0 : Int64).toInt = 0 by decide +kernel]; omega
    have h2 : FBd 1000 (fun _ => (0 : Int64)) := fun e => by
      show -((1000 : Nat) : Int) ≤ (0 : Int64).toInt ∧ (0 : Int64).toInt ≤ (1000 : Nat)
      rw [show (0 : Int64).toInt = 0 by decide +kernel]; omega
    have hp : 2 ^ ((trS n sh).1 - 1) ≤ 2 ^ 8 := Nat.pow_le_pow_right (by omega) (by omega)
    have := (bgL_b (fi := SN.fi n) (se := SN.se n) (s := trS n sh) ((trS n sh).1 - 1) (car0 (SN.dr n), fun _ => 0) 1000 h1 h2 (by omega)).2
    exact this.mono (by omega)
  · obtain ⟨k, hk, -, g1, -, g3, g4⟩ := tw.up ok.2.1 ok.1 h0 (show i < (trS n sh).1 by have := tw.2.2.2.1.1; omega)
    simp only [gl, Bool.and_eq_true, decide_eq_true_eq]
    refine ⟨g1, g3, ?_⟩
    rcases g4 with g4 | g4
    · rw [g4.1]; exact (tw.1 i (by have := tw.2.2.2.1.1; omega)).2
    · rw [g4.2]; exact (tw.1 k (by have := tw.2.2.2.1.1; omega)).2
def itS (n : SN) (sh : Int32) (k : Nat) : FL := itr (fun x => (gS n sh x).1) k (bgS n sh)
theorem okN.it (ok : okN n) (sh : Int32) {k : Nat} (hk : k ≤ 60) : FBd (8388608) (itS n sh k) ∧ LV (gl n sh) (itS n sh k) := by
  refine ⟨?_, itr_v (fun r hr q hq => (ok.ring sh hr).2.2.2 q hq) (ok.bg sh).2 k⟩
  have := itr_b (ls := SN.ls n) (sp := SN.sp n) (rs := rgS n sh) (fun r hr => ⟨(ok.ring sh hr).2.1, (ok.ring sh hr).2.2.1⟩) (ok.rings sh) (ok.bg sh).1 (by decide +kernel) k (by omega)
  exact this.mono (by omega)
theorem swl_it {g : FL → FL × Bool} : ∀ (m c : Nat) (f : FL), ∃ k, k ≤ m ∧ swl g m c f = (itr (fun x => (g x).1) k f, c + k)
  | 0, c, f => ⟨0, Nat.le_refl _, rfl⟩
  | m + 1, c, f => by
    unfold swl
    split
    · obtain ⟨k, hk, h⟩ := swl_it m (c + 1) (g f).1
      exact ⟨k + 1, by omega, by rw [h, show c + 1 + k = c + (k + 1) by omega]; rfl⟩
    · exact ⟨1, by omega, rfl⟩
theorem okN.fl (ok : okN n) (sh : Int32) {lim : Nat} (hl : lim ≤ 60) : FBd (8388608) (flS n sh lim).1 ∧ LV (gl n sh) (flS n sh lim).1 ∧ (flS n sh lim).2 ≤ lim := by
  obtain ⟨k, hk, h⟩ := swl_it (g := gS n sh) lim 0 (bgS n sh)
  have := ok.it sh (k := k) (by omega)
  unfold flS
  rw [h]
  exact ⟨this.1, this.2, by show 0 + k ≤ lim; omega⟩
set_option maxRecDepth 100000 in
theorem rStp_b {sp : Nat → Int64 → Int64} {fl : FL} (r : RG) : ∀ (a : Int64) (c : Nat), (∀ q ∈ r, 1 ≤ (sp q.1 (fl q.1)).toInt ∧ (sp q.1 (fl q.1)).toInt ≤ 1073741824) → 0 ≤ a.toInt → a.toInt ≤ (c : Int) * 1073741824 → c + r.length ≤ 20 → a.toInt + (r.length : Int) ≤ (r.foldl (fun a q => a + sp q.1 (fl q.1)) a).toInt ∧ (r.foldl (fun a q => a + sp q.1 (fl q.1)) a).toInt ≤ ((c : Int) + (r.length : Int)) * 1073741824 := by
  induction r with
  | nil => intro a c _ h0 h1 _; exact ⟨by simp, by simpa using h1⟩
  | cons q r ih =>
    intro a c h h0 h1 hc
    have hl : (q :: r).length = r.length + 1 := rfl
    have hq := h q List.mem_cons_self
    have e := fb_addL (x := a) (y := sp q.1 (fl q.1)) (by omega) (by omega)
    have := ih (a + sp q.1 (fl q.1)) (c + 1) (fun x hx => h x (List.mem_cons_of_mem _ hx)) (by omega) (by omega) (by omega)
    rw [List.foldl_cons]
    exact ⟨by omega, by omega⟩
set_option maxRecDepth 100000 in
theorem okN.stp (ok : okN n) (sh : Int32) {fl : FL} (hf : FBd (16777216) fl) {r : RG} (hr : r ∈ rgS n sh) : 1 ≤ (rStp (SN.sp n) fl r).toInt ∧ (rStp (SN.sp n) fl r).toInt ≤ 9 * 1073741824 := by
  have z := ok.ring sh hr
  have hl : 1 ≤ r.length := by cases r with | nil => exact absurd rfl z.1 | cons a t => simp
  have e0 : (0 : Int64).toInt = 0 := by decide +kernel
  have := rStp_b (sp := SN.sp n) (fl := fl) r 0 0 (fun q hq => by
    have g := z.2.2.2 q hq
    simp only [gl, Bool.and_eq_true, decide_eq_true_eq] at g
    have h1 := hf q.1
    have := ok.2.2.1 q.1 g.1 (fl q.1) ⟨by omega, by omega⟩
    exact ⟨this.1, this.2.1⟩) (by rw [e0]; omega) (by rw [e0]; omega) (by omega)
  rw [e0] at this
  refine ⟨Int.le_trans ?_ this.1, Int.le_trans this.2 ?_⟩ <;> omega
def hbN : Nat → Nat
  | 0 => 100000
  | k + 1 => hbN k + 9007199254740992
theorem hbN_le : ∀ k, k ≤ 8 → hbN k ≤ 144115188075855872 := by decide +kernel
theorem sub_b {x y : Int64} {A B : Nat} (hx : -(A : Int) ≤ x.toInt ∧ x.toInt ≤ A) (hy : -(B : Int) ≤ y.toInt ∧ y.toInt ≤ B) (h : A + B < 4611686018427387904) : (x - y).toInt = x.toInt - y.toInt ∧ -((A + B : Nat) : Int) ≤ (x - y).toInt ∧ (x - y).toInt ≤ ((A + B : Nat) : Int) := by
  have e := fb_subL (x := x) (y := y) (by omega) (by omega)
  rw [e]; refine ⟨rfl, ?_, ?_⟩ <;> omega
theorem neg_b {y : Int64} {B : Nat} (hy : -(B : Int) ≤ y.toInt ∧ y.toInt ≤ B) (h : B < 4611686018427387904) : (-y).toInt = -y.toInt ∧ -(B : Int) ≤ (-y).toInt ∧ (-y).toInt ≤ B := by
  have e0 : -y = 0 - y := (Int64.zero_sub _).symm
  have e1 : (0 : Int64).toInt = 0 := by decide +kernel
  have e := fb_subL (x := 0) (y := y) (by rw [e1]; omega) (by rw [e1]; omega)
  rw [e1] at e
  rw [e0, e]; refine ⟨by omega, by omega, by omega⟩
theorem okN.hd (ok : okN n) (sh : Int32) {fl : FL} (hf : FBd 16777216 fl) (k : Nat) : k < (trS n sh).1 → FBd (hbN k) (hdL (SN.fi n) (SN.se n) (SN.ls n) (trS n sh) fl (SN.wh n) k) := by
  induction k with
  | zero => intro _ e; have := ok.2.2.2.2; show -((100000 : Nat) : Int) ≤ (SN.wh n).toInt ∧ (SN.wh n).toInt ≤ ((100000 : Nat) : Int); exact ⟨by omega, by omega⟩
  | succ k ihk =>
    intro hk
    have tw := ok.tw sh
    have h9 := tw.le
    have ih := ihk (by omega)
    obtain ⟨-, -, -, g1, -⟩ := tw.up ok.2.1 ok.1 (show 0 < k + 1 by omega) hk
    have h1 := hf (pe (trS n sh) ((trS n sh).2.1 (k + 1)))
    have h2 := (ok.2.2.1 _ g1 (fl (pe (trS n sh) ((trS n sh).2.1 (k + 1)))) ⟨by omega, by omega⟩).2.2
    have h3 := ih (upj (SN.fi n) (SN.se n) (trS n sh) ((trS n sh).2.1 (k + 1)))
    have hb := hbN_le k (by omega)
    have h4 : -((9007199254740992 : Nat) : Int) ≤ (SN.ls n (pe (trS n sh) ((trS n sh).2.1 (k + 1))) (fl (pe (trS n sh) ((trS n sh).2.1 (k + 1))))).toInt ∧ (SN.ls n (pe (trS n sh) ((trS n sh).2.1 (k + 1))) (fl (pe (trS n sh) ((trS n sh).2.1 (k + 1))))).toInt ≤ ((9007199254740992 : Nat) : Int) := ⟨by omega, by omega⟩
    refine FBd.upd (B := hbN k + 9007199254740992) (ih.mono (Nat.le_add_right _ _)) ?_
    split
    · exact (sub_b h3 h4 (by omega)).2
    · exact (sub_b h3 (neg_b h4 (by omega)).2 (by omega)).2
theorem okN.hds (ok : okN n) (sh : Int32) : FBd 144115188075855872 (hdS n sh) := by
  have tw := ok.tw sh
  have h9 := tw.le
  have := okN.hd ok sh ((ok.fl sh (Nat.le_refl 60)).1.mono (by decide +kernel)) ((trS n sh).1 - 1) (by have := tw.2.2.2.1.1; omega)
  exact this.mono (hbN_le _ (by omega))
end OKN
