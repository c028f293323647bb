/-! ===== the specification: FLOWS, SWEEPS, HEADS, ROUNDS ===== -/
abbrev FL : Type := Nat → Int64
abbrev RG : Type := List (Nat × Int32)
/-- a net to be solved: EDGES, FIRST, SECOND, kind, LOSS, STEEP, draws, HEAD of the well, CLOSED -/
abbrev SN : Type := Nat × (Nat → Nat) × (Nat → Nat) × (Nat → Int32) × (Nat → Int64 → Int64) × (Nat → Int64 → Int64) × (Nat → Int64) × Int64 × Int32
abbrev SN.E (n : SN) : Nat := n.1
abbrev SN.fi (n : SN) : Nat → Nat := n.2.1
abbrev SN.se (n : SN) : Nat → Nat := n.2.2.1
abbrev SN.kd (n : SN) : Nat → Int32 := n.2.2.2.1
abbrev SN.ls (n : SN) : Nat → Int64 → Int64 := n.2.2.2.2.1
abbrev SN.sp (n : SN) : Nat → Int64 → Int64 := n.2.2.2.2.2.1
abbrev SN.dr (n : SN) : Nat → Int64 := n.2.2.2.2.2.2.1
abbrev SN.wh (n : SN) : Int64 := n.2.2.2.2.2.2.2.1
abbrev SN.cl (n : SN) : Int32 := n.2.2.2.2.2.2.2.2
def opS (n : SN) (sh : Int32) (e : Nat) : Bool := !bt (SN.cl n) e && !bt sh e
def trS (n : SN) (sh : Int32) : TS := treeS (SN.E n) (SN.fi n) (SN.se n) (opS n sh)
def rgS (n : SN) (sh : Int32) : List RG := ringsS (SN.fi n) (SN.se n) (opS n sh) (trS n sh) (SN.E n)
def bg1 (fi se : Nat → Nat) (s : TS) (j : Nat) (x : FL × FL) : FL × FL := (fupd x.1 (upj fi se s j) (x.1 (upj fi se s j) + x.1 j), fupd x.2 (pe s j) (if se (pe s j) = j then x.1 j else -(x.1 j)))
def bgL (fi se : Nat → Nat) (s : TS) : Nat → FL × FL → FL × FL
  | 0, x => x
  | k + 1, x => bgL fi se s k (bg1 fi se s (s.2.1 (k + 1)) x)
def car0 (dr : Nat → Int64) : FL := fun j => if 0 < j then dr j else 0
def bgS (n : SN) (sh : Int32) : FL := (bgL (SN.fi n) (SN.se n) (trS n sh) ((trS n sh).1 - 1) (car0 (SN.dr n), fun _ => 0)).2
def rSum (ls : Nat → Int64 → Int64) (fl : FL) (r : RG) : Int64 := r.foldl (fun a q => a + q.2.toInt64 * ls q.1 (fl q.1)) 0
def rStp (sp : Nat → Int64 → Int64) (fl : FL) (r : RG) : Int64 := r.foldl (fun a q => a + sp q.1 (fl q.1)) 0
def nearS (u d : Int64) : Int64 := if u < 0 then -((2 * (if u < 0 then -u else u) + d - 1) / (2 * d)) else (2 * (if u < 0 then -u else u) + d - 1) / (2 * d)
def clampS (x : Int64) : Int64 := if 1000 < x then 1000 else if x < -1000 then -1000 else x
def lessS (fl : FL) (r : RG) (st : Int64) : FL := r.foldl (fun f q => fupd f q.1 (f q.1 - q.2.toInt64 * st)) fl
def stepS (ls sp : Nat → Int64 → Int64) (fl : FL) (r : RG) : Int64 := clampS (nearS (rSum ls fl r) (rStp sp fl r))
def swp1 (ls sp : Nat → Int64 → Int64) (x : FL × Bool) (r : RG) : FL × Bool := (lessS x.1 r (stepS ls sp x.1 r), x.2 || decide (¬ stepS ls sp x.1 r = 0))
def swp (ls sp : Nat → Int64 → Int64) (rs : List RG) (fl : FL) : FL × Bool := rs.foldl (swp1 ls sp) (fl, false)
def swl (g : FL → FL × Bool) : Nat → Nat → FL → FL × Nat
  | 0, c, f => (f, c)
  | m + 1, c, f => if (g f).2 = true then swl g m (c + 1) (g f).1 else ((g f).1, c + 1)
def gS (n : SN) (sh : Int32) : FL → FL × Bool := swp (SN.ls n) (SN.sp n) (rgS n sh)
/-- flows behind at most so many sweeps, and how many there were -/
def flS (n : SN) (sh : Int32) (lim : Nat) : FL × Nat := swl (gS n sh) lim 0 (bgS n sh)
def hd1 (fi se : Nat → Nat) (ls : Nat → Int64 → Int64) (s : TS) (fl hd : FL) (j : Nat) : FL := fupd hd j (hd (upj fi se s j) - (if se (pe s j) = j then ls (pe s j) (fl (pe s j)) else -(ls (pe s j) (fl (pe s j)))))
def hdL (fi se : Nat → Nat) (ls : Nat → Int64 → Int64) (s : TS) (fl : FL) (wh : Int64) : Nat → FL
  | 0 => fun _ => wh
  | k + 1 => hd1 fi se ls s fl (hdL fi se ls s fl wh k) (s.2.1 (k + 1))
def hdS (n : SN) (sh : Int32) : FL := hdL (SN.fi n) (SN.se n) (SN.ls n) (trS n sh) (flS n sh 60).1 (SN.wh n) ((trS n sh).1 - 1)
def wrongS (n : SN) (sh : Int32) : Option Nat := fnd (fun e => decide (¬ SN.kd n e = 0) && (opS n sh e && (trS n sh).2.2.2 (SN.fi n e) && decide ((flS n sh 60).1 e < 0))) 0 (SN.E n)
def rightS (n : SN) (sh : Int32) : Option Nat := fnd (fun e => bt sh e && (trS n sh).2.2.2 (SN.fi n e) && (!(trS n sh).2.2.2 (SN.se n e) || decide (hdS n sh (SN.se n e) < hdS n sh (SN.fi n e) - SN.ls n e 0))) 0 (SN.E n)
def turnS (n : SN) (sh : Int32) : Option Nat := match wrongS n sh with | some e => some e | none => rightS n sh
def flipS (sh : Int32) (e : Nat) : Int32 := sh ^^^ ((1 : Int32) <<< (nI e &&& 31))
/-- what is SHUT in the last ROUND, how many ROUNDS, AT REST -/
def slv (n : SN) : Nat → Nat → Int32 → Int32 × Nat × Bool
  | 0, r, sh => (sh, r, false)
  | m + 1, r, sh => match turnS n sh with
    | none => (sh, r + 1, true)
    | some e => if m = 0 then (sh, r + 1, false) else slv n m (r + 1) (flipS sh e)
def solveS (n : SN) : Int32 × Nat × Bool := slv n 20 0 0
/-! circles of sweeps -/
def itr {α : Type} (f : α → α) : Nat → α → α
  | 0, x => x
  | n + 1, x => itr f n (f x)
theorem itr_succ {α : Type} (f : α → α) : ∀ (n : Nat) (x : α), itr f (n + 1) x = f (itr f n x)
  | 0, _ => rfl
  | n + 1, x => itr_succ f n (f x)
theorem itr_add {α : Type} (f : α → α) : ∀ (n m : Nat) (x : α), itr f (n + m) x = itr f n (itr f m x)
  | n, 0, _ => rfl
  | n, m + 1, x => itr_add f n m (f x)
theorem swl_all {g : FL → FL × Bool} : ∀ (m c : Nat) (f : FL), (∀ i, i < m → (g (itr (fun x => (g x).1) i f)).2 = true) → swl g m c f = (itr (fun x => (g x).1) m f, c + m)
  | 0, _, _, _ => rfl
  | m + 1, c, f, h => by
    unfold swl
    have h0 : (g f).2 = true := h 0 (by omega)
    rw [if_pos h0, swl_all m (c + 1) (g f).1 (fun i hi => h (i + 1) (by omega)), show c + 1 + m = c + (m + 1) by omega]
    rfl
theorem swl_stop {g : FL → FL × Bool} : ∀ (k m c : Nat) (f : FL), k < m → (∀ i, i < k → (g (itr (fun x => (g x).1) i f)).2 = true) → (g (itr (fun x => (g x).1) k f)).2 = false → swl g m c f = (itr (fun x => (g x).1) (k + 1) f, c + k + 1)
  | _, 0, _, _, hk, _, _ => by omega
  | 0, m + 1, c, f, _, _, h0 => by
    have h0 : (g f).2 = false := h0
    unfold swl
    rw [if_neg (by rw [h0]; decide)]
    rfl
  | k + 1, m + 1, c, f, hk, h, h0 => by
    unfold swl
    have h1 : (g f).2 = true := h 0 (by omega)
    rw [if_pos h1, swl_stop k m (c + 1) (g f).1 (by omega) (fun i hi => h (i + 1) (by omega)) h0, show c + 1 + k + 1 = c + (k + 1) + 1 by omega]
    rfl
/-- what came again comes again and again -/
theorem itr_circle {α : Type} (f : α → α) {x : α} {a b : Nat} (hab : a < b) (e : itr f b x = itr f a x) : ∀ c, itr f (b + c * (b - a)) x = itr f b x
  | 0 => by simp
  | c + 1 => by
    have ih := itr_circle f hab e c
    rw [show b + (c + 1) * (b - a) = (b - a) + (b + c * (b - a)) by rw [Nat.succ_mul]; omega, itr_add, ih, e, ← itr_add, show b - a + a = b by omega, e]
theorem itr_back {α : Type} (f : α → α) {x : α} {a b : Nat} (hab : a < b) (e : itr f b x = itr f a x) (i : Nat) (hi : b ≤ i) : itr f i x = itr f (i - (b - a)) x := by
  rw [show i = (i - b) + b by omega, itr_add, e, ← itr_add]
  congr 1; omega
theorem itr_ever {α : Type} (f : α → α) (P : α → Prop) {x : α} {a b : Nat} (hab : a < b) (e : itr f b x = itr f a x) (h : ∀ i, i < b → P (itr f i x)) : ∀ i, P (itr f i x) := by
  intro i
  induction i using Nat.strongRecOn with
  | ind i ih =>
    rcases Nat.lt_or_ge i b with q | q
    · exact h i q
    · rw [itr_back f hab e i q]
      exact ih _ (by omega)
/-! circles of rounds -/
def nxtS (n : SN) (sh : Int32) : Int32 := match turnS n sh with | some e => flipS sh e | none => sh
theorem slv_rest {n : SN} : ∀ (k m r : Nat) (sh : Int32), k < m → (∀ i, i < k → (turnS n (itr (nxtS n) i sh)).isSome = true) → turnS n (itr (nxtS n) k sh) = none → slv n m r sh = (itr (nxtS n) k sh, r + k + 1, true)
  | _, 0, _, _, hk, _, _ => by omega
  | 0, m + 1, r, sh, _, _, h0 => by
    have h0 : turnS n sh = none := h0
    simp only [slv, h0]
    rfl
  | k + 1, m + 1, r, sh, hk, h, h0 => by
    obtain ⟨e, he⟩ := Option.isSome_iff_exists.mp (show (turnS n sh).isSome = true from h 0 (by omega))
    have hx : nxtS n sh = flipS sh e := by simp only [nxtS, he]
    simp only [slv, he, if_neg (show ¬ m = 0 by omega)]
    rw [← hx, slv_rest k m (r + 1) (nxtS n sh) (by omega) (fun i hi => h (i + 1) (by omega)) h0]
    show (_, r + 1 + k + 1, true) = (_, r + (k + 1) + 1, true)
    rw [show r + 1 + k + 1 = r + (k + 1) + 1 by omega]
    rfl
theorem slv_on {n : SN} : ∀ (m r : Nat) (sh : Int32), (∀ i, i < m + 1 → (turnS n (itr (nxtS n) i sh)).isSome = true) → slv n (m + 1) r sh = (itr (nxtS n) m sh, r + m + 1, false)
  | 0, r, sh, h => by
    obtain ⟨e, he⟩ := Option.isSome_iff_exists.mp (show (turnS n sh).isSome = true from h 0 (by omega))
    simp only [slv, he, if_pos]
    rfl
  | m + 1, r, sh, h => by
    obtain ⟨e, he⟩ := Option.isSome_iff_exists.mp (show (turnS n sh).isSome = true from h 0 (by omega))
    have hx : nxtS n sh = flipS sh e := by simp only [nxtS, he]
    rw [show slv n (m + 1 + 1) r sh = slv n (m + 1) (r + 1) (flipS sh e) by rw [slv, he]; simp]
    rw [← hx, slv_on m (r + 1) (nxtS n sh) (fun i hi => h (i + 1) (by omega))]
    show (_, r + 1 + m + 1, false) = (_, r + (m + 1) + 1, false)
    rw [show r + 1 + m + 1 = r + (m + 1) + 1 by omega]
    rfl
/-! a step of 0 changes nothing -/
theorem fupd_id {α : Type} (f : Nat → α) (k : Nat) : fupd f k (f k) = f := by
  funext j
  by_cases h : j = k
  · subst h; rw [fupd_s]
  · rw [fupd_n h]
theorem lessS_0 (fl : FL) : ∀ r : RG, lessS fl r 0 = fl
  | [] => rfl
  | q :: r => by
    show lessS (fupd fl q.1 (fl q.1 - q.2.toInt64 * 0)) r 0 = fl
    rw [Int64.mul_zero, Int64.sub_zero, fupd_id]
    exact lessS_0 fl r
theorem clampS_0 (x : Int64) : clampS x = 0 ↔ x = 0 := by
  unfold clampS
  constructor
  · intro h
    split at h
    · exact absurd h (by decide)
    · split at h
      · exact absurd h (by decide)
      · exact h
  · intro h
    subst h
    decide
