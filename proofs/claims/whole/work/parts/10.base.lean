/-! ===== ground for the methods' proofs ===== -/
def valsOK (as : List Value) : Bool := as.all fun v => match v with | .int _ => true | .long _ => true | .ref _ => true | _ => false
theorem Con.mk {M : MI} {dp : Nat} {as : List Value} {h : PH} {Q : Option Value → PH → Prop} (hy : plainName M.1.cls = true) (k : RT M dp 0 (lvE as M.2.2.1) [] h Q) (ha : (valsOK as && Nat.ble (lg_sl (as.map (tr id))).length M.2.2.1 && Nat.beq (lvE as M.2.2.1).length M.2.2.1) = true := by rfl) : Con M dp as h Q := by
  simp only [Bool.and_eq_true] at ha
  refine Con.of hy (fun v hv => ?_) (Nat.le_of_ble_eq_true ha.1.2) (Nat.eq_of_beq_eq_true ha.2) k
  have := List.all_eq_true.mp ha.1.1 v hv
  cases v <;> simp at this ⊢

def shN : List (Nat ⊕ FieldType × Nat) := [.inl 2, .inr (.long, 9), .inr (.int, 9), .inr (.int, 9), .inr (.int, 14), .inr (.int, 14), .inr (.int, 14), .inr (.int, 14), .inr (.int, 14), .inr (.int, 84)]
def isN (o : Nat) : Prop := o = 3 ∨ o = 15 ∨ o = 42
theorem isN.s {o : Nat} (h : isN o) (k : Nat) (hk : k < 10) : shp (o + k) = shN[k]? := by
  have h0 : ∀ o ∈ [3, 15, 42], ∀ k, k < 10 → shp (o + k) = shN[k]? := by decide +kernel
  refine h0 o ?_ k hk
  rcases h with rfl | rfl | rfl <;> decide
def shT : List (Nat ⊕ FieldType × Nat) := [.inl 5, .inr (.int, 9), .inr (.int, 9), .inr (.int, 9), .inr (.int, 9), .inr (.int, 9)]
def isT (o : Nat) : Prop := o = 25 ∨ o = 52
theorem isT.s {o : Nat} (h : isT o) (k : Nat) (hk : k < 6) : shp (o + k) = shT[k]? := by
  have h0 : ∀ o ∈ [25, 52], ∀ k, k < 6 → shp (o + k) = shT[k]? := by decide +kernel
  refine h0 o ?_ k hk
  rcases h with rfl | rfl <;> decide
def shR : List (Nat ⊕ FieldType × Nat) := [.inl 4, .inr (.int, 14), .inr (.int, 126), .inr (.int, 126), .inr (.int, 9)]
def isR (o : Nat) : Prop := o = 31 ∨ o = 58
theorem isR.s {o : Nat} (h : isR o) (k : Nat) (hk : k < 5) : shp (o + k) = shR[k]? := by
  have h0 : ∀ o ∈ [31, 58], ∀ k, k < 5 → shp (o + k) = shR[k]? := by decide +kernel
  refine h0 o ?_ k hk
  rcases h with rfl | rfl <;> decide
def shW : List (Nat ⊕ FieldType × Nat) := [.inl 6, .inl 2, .inr (.long, 9), .inr (.int, 9), .inr (.int, 9), .inr (.int, 14), .inr (.int, 14), .inr (.int, 14), .inr (.int, 14), .inr (.int, 14), .inr (.int, 84), .inl 5, .inr (.int, 9), .inr (.int, 9), .inr (.int, 9), .inr (.int, 9), .inr (.int, 9), .inl 4, .inr (.int, 14), .inr (.int, 126), .inr (.int, 126), .inr (.int, 9), .inr (.long, 14), .inr (.long, 9), .inr (.long, 9), .inr (.long, 14), .inr (.int, 21)]
def isW (o : Nat) : Prop := o = 14 ∨ o = 41
theorem isW.s {o : Nat} (h : isW o) (k : Nat) (hk : k < 27) : shp (o + k) = shW[k]? := by
  have h0 : ∀ o ∈ [14, 41], ∀ k, k < 27 → shp (o + k) = shW[k]? := by decide +kernel
  refine h0 o ?_ k hk
  rcases h with rfl | rfl <;> decide
theorem isW.n {o : Nat} (h : isW o) : isN (o + 1) := by rcases h with rfl | rfl <;> simp [isN]
theorem isW.t {o : Nat} (h : isW o) : isT (o + 11) := by rcases h with rfl | rfl <;> simp [isT]
theorem isW.r {o : Nat} (h : isW o) : isR (o + 17) := by rcases h with rfl | rfl <;> simp [isR]
theorem pI_1 (h : PH) (o k : Nat) (x : Int32) (a b : Nat) : (pI h o k x).1 a b = if a = o ∧ b = k then x else h.1 a b := rfl
theorem pI_2 (h : PH) (o k : Nat) (x : Int32) : (pI h o k x).2 = h.2 := rfl
theorem pL_1 (h : PH) (o k : Nat) (x : Int64) : (pL h o k x).1 = h.1 := rfl
theorem pL_2 (h : PH) (o k : Nat) (x : Int64) (a b : Nat) : (pL h o k x).2 a b = if a = o ∧ b = k then x else h.2 a b := rfl
theorem pA_1 (h : PH) (o : Nat) (f : Nat → Int32) (a b : Nat) : (pA h o f).1 a b = if a = o then f b else h.1 a b := rfl
theorem pA_2 (h : PH) (o : Nat) (f : Nat → Int32) : (pA h o f).2 = h.2 := rfl
theorem pB_1 (h : PH) (o : Nat) (f : Nat → Int64) : (pB h o f).1 = h.1 := rfl
theorem pB_2 (h : PH) (o : Nat) (f : Nat → Int64) (a b : Nat) : (pB h o f).2 a b = if a = o then f b else h.2 a b := rfl
theorem ph_ext {h h' : PH} (h1 : ∀ a b, h.1 a b = h'.1 a b) (h2 : ∀ a b, h.2 a b = h'.2 a b) : h = h' := Prod.ext (funext fun a => funext fun b => h1 a b) (funext fun a => funext fun b => h2 a b)
/-- a number of the machine, taken as a place -/
theorem tn_nI {n : Nat} (h : n < 2 ^ 31) : (nI n).toNatClampNeg = n := nI_clamp h

