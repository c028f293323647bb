/-! ===== reading: what a text comes to ===== -/
abbrev RS : Type := Int32 × TK × NT × NMS
def nx (B : Nat → Nat) (n : Nat) (k : TK) : TK := tkS B n k.2.2
def wF (B : Nat → Nat) (k : TK) (lo hi : Int32) : Int32 := if k.1 = 2 then (if lo ≤ wv B k ∧ wv B k ≤ hi then 0 else 2) else 1
def jH (nm : NMS) (J : Nat) (L : List Nat) : Option Nat := fnd (fun j => decide (nm j = L)) 0 J
def nF (B : Nat → Nat) (k : TK) (t : NT) (nm : NMS) : Int32 := if isNm B k then (if jH nm (NT.J t) (wd B k) = none then 0 else 3) else 1
def adJ (t : NT) (d h : Int32) : NT := (NT.J t + 1, NT.E t, NT.fi t, NT.se t, NT.kd t, NT.rs t, NT.lc t, NT.lf t, fupd (NT.dr t) (NT.J t) d, NT.wh t, NT.cl t, fupd (NT.ht t) (NT.J t) h)
def adE (t : NT) (kd : Int32) (a b : Nat) (r : Int32) : NT := (NT.J t, NT.E t + 1, fupd (NT.fi t) (NT.E t) a, fupd (NT.se t) (NT.E t) b, fupd (NT.kd t) (NT.E t) kd, fupd (NT.rs t) (NT.E t) r, fupd (NT.lc t) (NT.E t) 0, NT.lf t, NT.dr t, NT.wh t, NT.cl t, NT.ht t)
def adL (t : NT) (v : Int32) : NT := (NT.J t, NT.E t, NT.fi t, NT.se t, NT.kd t, NT.rs t, fupd (NT.lc t) (NT.E t - 1) (NT.lc t (NT.E t - 1) + 1), fupd (NT.lf t) (NT.E t - 1) (fupd (NT.lf t (NT.E t - 1)) (NT.lc t (NT.E t - 1)) v), NT.dr t, NT.wh t, NT.cl t, NT.ht t)
def t00 : NT := (0, 0, fun _ => 0, fun _ => 0, fun _ => 0, fun _ => 0, fun _ => 0, fun _ _ => 0, fun _ => 0, 0, 0, fun _ => 0)
def nm0 : NMS := fun _ => []
def spWell (B : Nat → Nat) (n : Nat) (k : TK) (t : NT) (nm : NMS) : RS :=
  if k.1 = 1 ∧ wd B k = kwL 0 then (if nF B (nx B n k) t nm = 0 then (if wF B (nx B n (nx B n k)) 0 999 = 0 then (0, nx B n (nx B n (nx B n k)), adJ (setWh t (wv B (nx B n (nx B n k)))) 0 0, fupd nm (NT.J t) (wd B (nx B n k))) else (wF B (nx B n (nx B n k)) 0 999, nx B n (nx B n k), t, nm)) else (nF B (nx B n k) t nm, nx B n k, t, nm)) else (1, k, t, nm)
def spJ2 (B : Nat → Nat) (n : Nat) (d : Int32) (L : List Nat) (k3 : TK) (t : NT) (nm : NMS) : RS :=
  if k3.1 = 1 ∧ wd B k3 = kwL 2 then (if wF B (nx B n k3) 0 300 = 0 then (0, nx B n (nx B n k3), adJ t d (wv B (nx B n k3)), fupd nm (NT.J t) L) else (wF B (nx B n k3) 0 300, nx B n k3, t, nm)) else (1, k3, t, nm)
def spJoint (B : Nat → Nat) (n : Nat) (k : TK) (t : NT) (nm : NMS) : RS :=
  if NT.J t = 9 then (4, k, t, nm) else (if nF B (nx B n k) t nm = 0 then (if wF B (nx B n (nx B n k)) 0 60 = 0 then spJ2 B n (wv B (nx B n (nx B n k))) (wd B (nx B n k)) (nx B n (nx B n (nx B n k))) t nm else (wF B (nx B n (nx B n k)) 0 60, nx B n (nx B n k), t, nm)) else (nF B (nx B n k) t nm, nx B n k, t, nm))
/-- the joint that a token names; its fault -/
def jA (B : Nat → Nat) (k : TK) (t : NT) (nm : NMS) : Option Nat := if isNm B k then jH nm (NT.J t) (wd B k) else none
def jFl (B : Nat → Nat) (k : TK) : Int32 := if isNm B k then 3 else 1
/-- both ends: a fault and its token, or the ends and the token behind them -/
def spEnds (B : Nat → Nat) (n : Nat) (k : TK) (t : NT) (nm : NMS) : Int32 × TK × Nat × Nat :=
  if NT.E t = 14 then (4, k, 0, 0) else (match jA B (nx B n k) t nm with
    | none => (jFl B (nx B n k), nx B n k, 0, 0)
    | some a => (match jA B (nx B n (nx B n k)) t nm with
      | none => (jFl B (nx B n (nx B n k)), nx B n (nx B n k), 0, 0)
      | some b => if b = a then (3, nx B n (nx B n k), 0, 0) else (0, nx B n (nx B n (nx B n k)), a, b)))
def spRes (B : Nat → Nat) (n : Nat) (kd : Int32) (k : TK) (t : NT) (nm : NMS) : RS :=
  if (spEnds B n k t nm).1 = 0 then (if wF B (spEnds B n k t nm).2.1 1 20 = 0 then (0, nx B n (spEnds B n k t nm).2.1, adE t kd (spEnds B n k t nm).2.2.1 (spEnds B n k t nm).2.2.2 (wv B (spEnds B n k t nm).2.1), nm) else (wF B (spEnds B n k t nm).2.1 1 20, (spEnds B n k t nm).2.1, t, nm)) else ((spEnds B n k t nm).1, (spEnds B n k t nm).2.1, t, nm)
def spLift (B : Nat → Nat) (n : Nat) (nm : NMS) : Nat → TK → Int32 → NT → RS
  | 0, k, hi, t => (if wF B k 0 hi = 0 then 4 else wF B k 0 hi, k, t, nm)
  | m + 1, k, hi, t => if wF B k 0 hi = 0 then (if (nx B n k).1 = 4 then spLift B n nm m (nx B n (nx B n k)) (wv B k) (adL t (wv B k)) else (0, nx B n k, adL t (wv B k), nm)) else (wF B k 0 hi, k, t, nm)
def spPump (B : Nat → Nat) (n : Nat) (k : TK) (t : NT) (nm : NMS) : RS :=
  if (spEnds B n k t nm).1 = 0 then spLift B n nm 6 (spEnds B n k t nm).2.1 300 (adE t 2 (spEnds B n k t nm).2.2.1 (spEnds B n k t nm).2.2.2 0) else ((spEnds B n k t nm).1, (spEnds B n k t nm).2.1, t, nm)
def spLine (B : Nat → Nat) (n : Nat) (k : TK) (t : NT) (nm : NMS) : RS :=
  if k.1 = 1 ∧ wd B k = kwL 1 then spJoint B n k t nm else if k.1 = 1 ∧ wd B k = kwL 3 then spRes B n 0 k t nm else if k.1 = 1 ∧ wd B k = kwL 4 then spRes B n 1 k t nm else if k.1 = 1 ∧ wd B k = kwL 5 then spPump B n k t nm else (1, k, t, nm)
def spLines (B : Nat → Nat) (n : Nat) : Nat → RS → RS
  | 0, r => r
  | m + 1, r => if r.1 = 0 ∧ r.2.1.1 = 3 then spLines B n m (spLine B n (nx B n r.2.1) r.2.2.1 r.2.2.2) else r
def rc1 (t : NT) : Nat → Nat → Int32 → Int32
  | 0, _, a => a
  | m + 1, e, a => rc1 t m (e + 1) (if bt a (NT.fi t e) = true ∨ bt a (NT.se t e) = true then a ||| (((1 : Int32) <<< (nI (NT.fi t e) &&& 31)) ||| ((1 : Int32) <<< (nI (NT.se t e) &&& 31))) else a)
def rc2 (t : NT) : Nat → Int32 → Int32
  | 0, a => a
  | m + 1, a => rc2 t m (rc1 t (NT.E t) 0 a)
abbrev cnT (t : NT) : Prop := rc2 t (NT.J t) 1 = ((1 : Int32) <<< (nI (NT.J t) &&& 31)) - 1
def spEnd (r : RS) : RS := if r.1 = 0 then (if r.2.1.1 = 0 then (if 2 ≤ NT.J r.2.2.1 ∧ cnT r.2.2.1 then r else (5, r.2)) else (1, r.2)) else r
def spText (B : Nat → Nat) (n : Nat) : RS := spEnd (spLines B n 600 (spWell B n (tkS B n 0) t00 nm0))
/-! what holds of all that is read -/
def TI (t : NT) : Prop := NT.J t ≤ 9 ∧ NT.E t ≤ 14 ∧ (∀ e, e < NT.E t → NT.fi t e < NT.J t ∧ NT.se t e < NT.J t ∧ NT.fi t e ≠ NT.se t e ∧ (NT.kd t e = 0 ∨ NT.kd t e = 1 ∨ NT.kd t e = 2) ∧ (NT.kd t e ≠ 2 → 1 ≤ (NT.rs t e).toInt ∧ (NT.rs t e).toInt ≤ 20) ∧ NT.lc t e ≤ 6 ∧ ∀ k, k < NT.lc t e → 0 ≤ (NT.lf t e k).toInt ∧ (NT.lf t e k).toInt ≤ 300) ∧ (∀ j, j < NT.J t → 0 ≤ (NT.dr t j).toInt ∧ (NT.dr t j).toInt ≤ 60) ∧ (0 ≤ (NT.wh t).toInt ∧ (NT.wh t).toInt ≤ 999) ∧ (0 < NT.J t → NT.dr t 0 = 0) ∧ NT.cl t = 0
def TGd (n : Nat) (B : Nat → Nat) (k : TK) : Prop := TKok n k ∧ tkW k B
theorem TGd.nx {n : Nat} {B : Nat → Nat} {k : TK} (g : TGd n B k) : TGd n B (nx B n k) ∧ k.2.2 ≤ (nx B n k).2.1 := ⟨⟨(tkS_ok g.1.2.1).1, tkS_w⟩, (tkS_ok g.1.2.1).2⟩
theorem wF_0 {B : Nat → Nat} {k : TK} {lo hi : Int32} (h : wF B k lo hi = 0) : k.1 = 2 ∧ lo ≤ wv B k ∧ wv B k ≤ hi := by
  unfold wF at h
  split at h
  · next q => split at h
              · next q2 => exact ⟨q, q2⟩
              · exact absurd h (by decide)
  · exact absurd h (by decide)
theorem nF_0 {B : Nat → Nat} {k : TK} {t : NT} {nm : NMS} (h : nF B k t nm = 0) : isNm B k ∧ jH nm (NT.J t) (wd B k) = none := by
  unfold nF at h
  split at h
  · next q => split at h
              · next q2 => exact ⟨q, q2⟩
              · exact absurd h (by decide)
  · exact absurd h (by decide)
theorem wvb {B : Nat → Nat} {k : TK} {lo hi : Int32} {a b : Int} (h : lo ≤ wv B k ∧ wv B k ≤ hi) (e1 : lo.toInt = a) (e2 : hi.toInt = b) : a ≤ (wv B k).toInt ∧ (wv B k).toInt ≤ b := by
  have h1 := h.1; have h2 := h.2
  rw [fa_le] at h1 h2
  omega
theorem jH_lt {nm : NMS} {J : Nat} {L : List Nat} {i : Nat} (h : jH nm J L = some i) : i < J := by
  have := (fnd_lt h).2.1; omega
theorem TI.adJ {t : NT} (h : TI t) (h9 : NT.J t < 9) {d x : Int32} (hd : 0 ≤ d.toInt ∧ d.toInt ≤ 60) (h0 : NT.J t = 0 → d = 0) : TI (adJ t d x) := by
  obtain ⟨a1, a2, a3, a4, a5, a6, a7⟩ := h
  refine ⟨by show NT.J t + 1 ≤ 9; omega, a2, fun e he => ?_, fun j hj => ?_, a5, fun _ => ?_, a7⟩
  · obtain ⟨b1, b2, b3⟩ := a3 e he
    exact ⟨Nat.lt_succ_of_lt b1, Nat.lt_succ_of_lt b2, b3⟩
  · show 0 ≤ (fupd (NT.dr t) (NT.J t) d j).toInt ∧ (fupd (NT.dr t) (NT.J t) d j).toInt ≤ 60
    by_cases q : j = NT.J t
    · rw [q, fupd_s]; exact hd
    · rw [fupd_n q]; exact a4 j (by have : j < NT.J t + 1 := hj; omega)
  · show fupd (NT.dr t) (NT.J t) d 0 = 0
    by_cases q : 0 = NT.J t
    · rw [← q, fupd_s]; exact h0 q.symm
    · rw [fupd_n q]; exact a6 (by omega)
theorem TI.adE {t : NT} (h : TI t) (h14 : NT.E t < 14) {kd : Int32} (hk : kd = 0 ∨ kd = 1 ∨ kd = 2) {a b : Nat} (ha : a < NT.J t) (hb : b < NT.J t) (hab : a ≠ b) {r : Int32} (hr : kd ≠ 2 → 1 ≤ r.toInt ∧ r.toInt ≤ 20) : TI (adE t kd a b r) := by
  obtain ⟨a1, a2, a3, a4, a5, a6, a7⟩ := h
  refine ⟨a1, by show NT.E t + 1 ≤ 14; omega, fun e he => ?_, a4, a5, a6, a7⟩
  have he' : e < NT.E t + 1 := he
  show fupd (NT.fi t) (NT.E t) a e < NT.J t ∧ fupd (NT.se t) (NT.E t) b e < NT.J t ∧ fupd (NT.fi t) (NT.E t) a e ≠ fupd (NT.se t) (NT.E t) b e ∧ (fupd (NT.kd t) (NT.E t) kd e = 0 ∨ fupd (NT.kd t) (NT.E t) kd e = 1 ∨ fupd (NT.kd t) (NT.E t) kd e = 2) ∧ (fupd (NT.kd t) (NT.E t) kd e ≠ 2 → 1 ≤ (fupd (NT.rs t) (NT.E t) r e).toInt ∧ (fupd (NT.rs t) (NT.E t) r e).toInt ≤ 20) ∧ fupd (NT.lc t) (NT.E t) 0 e ≤ 6 ∧ ∀ k, k < fupd (NT.lc t) (NT.E t) 0 e → 0 ≤ (NT.lf t e k).toInt ∧ (NT.lf t e k).toInt ≤ 300
  by_cases q : e = NT.E t
  · rw [q, fupd_s, fupd_s, fupd_s, fupd_s, fupd_s]
    exact ⟨ha, hb, hab, hk, hr, by omega, fun k hk => by omega⟩
  · rw [fupd_n q, fupd_n q, fupd_n q, fupd_n q, fupd_n q]; exact a3 e (by omega)
theorem TI.adL {t : NT} (h : TI t) (h0 : 0 < NT.E t) (h6 : NT.lc t (NT.E t - 1) < 6) {v : Int32} (hv : 0 ≤ v.toInt ∧ v.toInt ≤ 300) : TI (adL t v) := by
  obtain ⟨a1, a2, a3, a4, a5, a6, a7⟩ := h
  refine ⟨a1, a2, fun e he => ?_, a4, a5, a6, a7⟩
  obtain ⟨b1, b2, b3, b4, b5, b6, b7⟩ := a3 e he
  refine ⟨b1, b2, b3, b4, b5, ?_⟩
  show fupd (NT.lc t) (NT.E t - 1) (NT.lc t (NT.E t - 1) + 1) e ≤ 6 ∧ ∀ k, k < fupd (NT.lc t) (NT.E t - 1) (NT.lc t (NT.E t - 1) + 1) e → 0 ≤ (fupd (NT.lf t) (NT.E t - 1) (fupd (NT.lf t (NT.E t - 1)) (NT.lc t (NT.E t - 1)) v) e k).toInt ∧ (fupd (NT.lf t) (NT.E t - 1) (fupd (NT.lf t (NT.E t - 1)) (NT.lc t (NT.E t - 1)) v) e k).toInt ≤ 300
  by_cases q : e = NT.E t - 1
  · rw [q, fupd_s, fupd_s]
    refine ⟨by omega, fun k hk => ?_⟩
    by_cases z : k = NT.lc t (NT.E t - 1)
    · rw [z, fupd_s]; exact hv
    · rw [fupd_n z]; exact (a3 (NT.E t - 1) (by omega)).2.2.2.2.2.2 k (by omega)
  · rw [fupd_n q, fupd_n q]; exact ⟨b6, b7⟩
theorem TI.tx {t : NT} (h : TI t) (h2 : 2 ≤ NT.J t) : TxOK t := by
  obtain ⟨a1, a2, a3, a4, a5, a6, a7⟩ := h
  refine ⟨⟨by omega, a1, a2, a3, fun j hj => by have := a4 j hj; omega, a5⟩, by omega, a6 (by omega), fun j hj => (a4 j hj).2, ?_⟩
  rw [a7]; exact fun i _ _ => b_0 i
theorem nmOK.ad {t : NT} {nm : NMS} (h : nmOK t nm) {L : List Nat} (h1 : 1 ≤ L.length) (h6 : L.length ≤ 6) (hL : lets L) {d x : Int32} : nmOK (adJ t d x) (fupd nm (NT.J t) L) := fun j hj => by
  have hj' : j < NT.J t + 1 := hj
  by_cases q : j = NT.J t
  · rw [q, fupd_s]; exact ⟨h1, h6, hL⟩
  · rw [fupd_n q]; exact h j (by omega)
theorem wd_ok {n : Nat} {B : Nat → Nat} {k : TK} (g : TGd n B k) (h : isNm B k) : 1 ≤ (wd B k).length ∧ (wd B k).length ≤ 6 ∧ lets (wd B k) := by
  have := wd_lets g.2 h.1
  refine ⟨?_, this.2, this.1⟩
  unfold wd; rw [wdL_len]
  have := g.1.2.2.1 (by rw [h.1]; decide)
  omega
