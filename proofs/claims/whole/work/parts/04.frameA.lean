/-! ===== the pure heap: ints by (cell, place), longs by (cell, place); the layout of the 100 cells; a run over it ===== -/
abbrev PH : Type := (Nat → Nat → Int32) × (Nat → Nat → Int64)
abbrev MI : Type := MethodName × ByteArray × Nat × Option FieldType
def shpL : List (Nat ⊕ FieldType × Nat) := [.inl 7, .inr (.byte, 600), .inl 3, .inl 2, .inr (.long, 9), .inr (.int, 9), .inr (.int, 9), .inr (.int, 14), .inr (.int, 14), .inr (.int, 14), .inr (.int, 14), .inr (.int, 14), .inr (.int, 84), .inr (.byte, 0), .inl 6, .inl 2, .inr (.long, 9), .inr (.int, 9), .inr (.int, 9), .inr (.int, 14), .inr (.int, 14), .inr (.int, 14), .inr (.int, 14), .inr (.int, 14), .inr (.int, 84), .inl 5, .inr (.int, 9), .inr (.int, 9), .inr (.int, 9), .inr (.int, 9), .inr (.int, 9), .inl 4, .inr (.int, 14), .inr (.int, 126), .inr (.int, 126), .inr (.int, 9), .inr (.long, 14), .inr (.long, 9), .inr (.long, 9), .inr (.long, 14), .inr (.int, 21), .inl 6, .inl 2, .inr (.long, 9), .inr (.int, 9), .inr (.int, 9), .inr (.int, 14), .inr (.int, 14), .inr (.int, 14), .inr (.int, 14), .inr (.int, 14), .inr (.int, 84), .inl 5, .inr (.int, 9), .inr (.int, 9), .inr (.int, 9), .inr (.int, 9), .inr (.int, 9), .inl 4, .inr (.int, 14), .inr (.int, 126), .inr (.int, 126), .inr (.int, 9), .inr (.long, 14), .inr (.long, 9), .inr (.long, 9), .inr (.long, 14), .inr (.int, 21), .inl 0, .inr (.int, 12), .inr (.int, 12), .inr (.int, 12), .inl 1, .inr (.int, 9), .inl 8, .inr (.int, 600), .inr (.int, 18), .inr (.int, 18), .inr (.int, 108), .inr (.int, 28), .inr (.int, 28), .inr (.int, 28), .inr (.int, 28), .inr (.int, 168), .inr (.int, 28), .inr (.int, 9), .inr (.int, 9), .inr (.long, 14), .inr (.int, 196), .inr (.int, 196), .inr (.int, 14), .inr (.long, 9), .inr (.int, 9), .inr (.long, 9), .inr (.boolean, 9), .inr (.int, 9), .inr (.int, 108), .inr (.int, 168), .inr (.int, 12), .inr (.long, 1)]
def shp (o : Nat) : Option (Nat ⊕ FieldType × Nat) := shpL[o]?
def fkL : List (List Nat) := [[0, 2, 2, 2], [0, 2, 0, 0, 0, 1], [0, 0, 0, 0, 2, 2, 2, 2, 2, 2, 2, 2, 2], [2, 3, 0, 0, 0, 0, 0, 1, 0, 1, 0, 0], [0, 2, 2, 2, 2], [0, 0, 0, 2, 2, 2, 2, 2], [2, 2, 2, 2, 2, 2, 2, 0, 2, 0, 0, 0, 0], [2, 0, 0, 0, 0, 2, 2, 2, 2, 2, 2, 2], [0, 0, 0, 0, 2, 0, 0, 0, 2, 2, 2, 2, 2, 2, 2, 2, 2, 0, 0, 0, 0, 0, 0, 0, 0, 0, 0, 0, 0, 0, 2, 2, 0, 2, 0, 2, 2, 2, 2, 0, 0, 0, 2, 2, 0, 0, 0, 0, 1, 2, 2, 0, 2, 2, 2]]
def ofL : List (List Nat) := [[0, 1, 2, 3], [0, 1, 0, 0, 0, 0], [0, 0, 0, 0, 1, 2, 3, 4, 5, 6, 7, 8, 9], [1, 0, 0, 0, 0, 0, 0, 0, 0, 0, 0, 0], [0, 1, 2, 3, 4], [0, 0, 0, 1, 2, 3, 4, 5], [1, 11, 17, 22, 23, 24, 25, 0, 26, 0, 0, 0, 0], [1, 0, 0, 0, 0, 2, 14, 15, 41, 42, 68, 72], [0, 0, 0, 0, 1, 0, 0, 0, 2, 3, 4, 5, 6, 7, 8, 9, 10, 0, 0, 0, 0, 0, 0, 0, 0, 0, 0, 0, 0, 0, 11, 12, 0, 13, 0, 14, 15, 16, 17, 0, 0, 0, 18, 19, 0, 0, 0, 0, 0, 20, 21, 0, 22, 23, 24]]
def fk (ci k : Nat) : Nat := (fkL.getD ci []).getD k 0
def offs (ci k : Nat) : Nat := (ofL.getD ci []).getD k 0
def nfl (ci : Nat) : Nat := (vwCl.getD ci ("", fun _ => ("", "", "", false), 0)).2.2
def cR (ci : Nat) : String := (vwCl.getD ci ("", fun _ => ("", "", "", false), 0)).1
def cT (ci : Nat) : u_T := (vwCl.getD ci ("", fun _ => ("", "", "", false), 0)).2.1
def cTy (ci : Nat) : Nat → FieldType := match ci with | 0 => tyX0 | 1 => tyX1 | 2 => tyX2 | 3 => tyX3 | 4 => tyX4 | 5 => tyX5 | 6 => tyX6 | 7 => tyX7 | _ => tyX8
def tr (ad : Nat → Nat) (v : Value) : Value := match v with | .ref a => .ref (ad a) | .int x => .int x | .long x => .long x | _ => .null
def fval (h : PH) (ci o k : Nat) : Value := match fk ci k with | 0 => .int (h.1 o k) | 1 => .long (h.2 o k) | 2 => .ref (o + offs ci k) | _ => .ref (h.1 o k).toNatClampNeg
def fvs (ad : Nat → Nat) (h : PH) (ci o : Nat) : List Value := (List.range (nfl ci)).map fun k => tr ad (fval h ci o k)
def cellE (ad : Nat → Nat) (cA : Nat → ClassId) (h : PH) (o : Nat) : va_E := match shp o with
  | some (.inl ci) => .inr (ci, fvs ad h ci o)
  | some (.inr (.long, n)) => .inl (cA o, n, .inr (.inl (h.2 o)))
  | some (.inr (_, n)) => .inl (cA o, n, .inl (h.1 o))
  | none => .inr (0, [])
def wld (ad : Nat → Nat) (cA : Nat → ClassId) (h : PH) : va_W := (List.range 100).map fun o => (ad o, cellE ad cA h o)
def pI (h : PH) (o k : Nat) (x : Int32) : PH := (fun a b => if a = o ∧ b = k then x else h.1 a b, h.2)
def pL (h : PH) (o k : Nat) (x : Int64) : PH := (h.1, fun a b => if a = o ∧ b = k then x else h.2 a b)
def pA (h : PH) (o : Nat) (f : Nat → Int32) : PH := (fun a b => if a = o then f b else h.1 a b, h.2)
def pB (h : PH) (o : Nat) (f : Nat → Int64) : PH := (h.1, fun a b => if a = o then f b else h.2 a b)
theorem shp_lt {o : Nat} {x : Nat ⊕ FieldType × Nat} (h : shp o = some x) : o < 100 := by
  have := (List.getElem?_eq_some_iff.mp h).1
  exact this
theorem shp_cls : ∀ o, o < 100 → ∀ ci, shp o = some (.inl ci) → ci < 9 := by
  intro o ho ci h
  have h1 : (shpL.all fun x => match x with | .inl ci => decide (ci < 9) | .inr _ => true) = true := by decide +kernel
  have h2 := List.all_eq_true.mp h1 _ (List.mem_of_getElem? h)
  simpa using h2
theorem wld_get {ad : Nat → Nat} {cA : Nat → ClassId} {h : PH} {o : Nat} (ho : o < 100) : (wld ad cA h)[o]? = some (ad o, cellE ad cA h o) := by
  simp [wld, ho]
theorem wld_set {ad : Nat → Nat} {cA : Nat → ClassId} {h h' : PH} {o : Nat} {e : va_E} (he : e = cellE ad cA h' o) (hn : ∀ a, a ≠ o → cellE ad cA h' a = cellE ad cA h a) : (wld ad cA h).set o (ad o, e) = wld ad cA h' := by
  subst he
  apply List.ext_getElem?
  intro i
  by_cases hi : i = o
  · subst hi
    by_cases h1 : i < 100
    · rw [wld_get h1, List.getElem?_set_self (by simpa [wld] using h1)]
    · rw [List.getElem?_eq_none (by simpa [wld] using h1), List.getElem?_eq_none (by simpa [wld] using h1)]
  · rw [List.getElem?_set_ne (Ne.symm hi)]
    by_cases h1 : i < 100
    · rw [wld_get h1, wld_get h1, hn i hi]
    · rw [List.getElem?_eq_none (by simpa [wld] using h1), List.getElem?_eq_none (by simpa [wld] using h1)]
theorem fval_c {h h' : PH} {ci o k : Nat} (h1 : h'.1 o k = h.1 o k) (h2 : h'.2 o k = h.2 o k) : fval h' ci o k = fval h ci o k := by
  unfold fval
  rw [h1, h2]
theorem cellE_c {ad : Nat → Nat} {cA : Nat → ClassId} {h h' : PH} {o : Nat} (h1 : h'.1 o = h.1 o) (h2 : h'.2 o = h.2 o) : cellE ad cA h' o = cellE ad cA h o := by
  have e : ∀ ci, fvs ad h' ci o = fvs ad h ci o := fun ci => by
    unfold fvs
    refine List.map_congr_left (fun k _ => ?_)
    exact congrArg (tr ad) (fval_c (congrFun h1 k) (congrFun h2 k))
  unfold cellE
  split <;> simp [*]
theorem vwCl_at {ci : Nat} (h : ci < 9) : vwCl[ci]? = some (cR ci, cT ci, nfl ci) := by
  rcases (show ci = 0 ∨ ci = 1 ∨ ci = 2 ∨ ci = 3 ∨ ci = 4 ∨ ci = 5 ∨ ci = 6 ∨ ci = 7 ∨ ci = 8 by omega) with rfl | rfl | rfl | rfl | rfl | rfl | rfl | rfl | rfl <;> rfl
theorem cTy_ok {ci : Nat} (h : ci < 9) : ∀ k, k < nfl ci → parseFieldDescriptor (cT ci k).2.2.1 = some (cTy ci k) := by
  rcases (show ci = 0 ∨ ci = 1 ∨ ci = 2 ∨ ci = 3 ∨ ci = 4 ∨ ci = 5 ∨ ci = 6 ∨ ci = 7 ∨ ci = 8 by omega) with rfl | rfl | rfl | rfl | rfl | rfl | rfl | rfl | rfl
  · exact tyX0_ok
  · exact tyX1_ok
  · exact tyX2_ok
  · exact tyX3_ok
  · exact tyX4_ok
  · exact tyX5_ok
  · exact tyX6_ok
  · exact tyX7_ok
  · exact tyX8_ok
theorem cNm_ok {ci : Nat} (h : ci < 9) : ∀ a, a < nfl ci → ∀ b, b < nfl ci → a ≠ b → (cT ci a).2.1 ≠ (cT ci b).2.1 := by
  rcases (show ci = 0 ∨ ci = 1 ∨ ci = 2 ∨ ci = 3 ∨ ci = 4 ∨ ci = 5 ∨ ci = 6 ∨ ci = 7 ∨ ci = 8 by omega) with rfl | rfl | rfl | rfl | rfl | rfl | rfl | rfl | rfl
  · exact nmX0
  · exact nmX1
  · exact nmX2
  · exact nmX3
  · exact nmX4
  · exact nmX5
  · exact nmX6
  · exact nmX7
  · exact nmX8
def rt_tbl : List Cond := lw_tbl.filter goodWord
theorem in_rt {w : Cond} (h : w ∈ lw_tbl) (hg : goodWord w = true) : w ∈ rt_tbl := List.mem_filter.mpr ⟨h, hg⟩
theorem tbl_lays : ((List.range 9).all fun ci => (u_ws (cR ci) (cT ci) (nfl ci)).all fun w => decide (w ∈ lw_tbl) && goodWord w) = true := by decide +kernel
theorem in_tbl {ci : Nat} (h : ci < 9) : ∀ w ∈ u_ws (cR ci) (cT ci) (nfl ci), w ∈ rt_tbl := by
  intro w hw
  have h1 := List.all_eq_true.mp tbl_lays ci (List.mem_range.mpr h)
  have h2 := List.all_eq_true.mp h1 w hw
  rw [Bool.and_eq_true] at h2
  exact in_rt (of_decide_eq_true h2.1) h2.2
theorem tbl_in {ws : List Cond} (h : ∀ w ∈ ws, w ∈ rt_tbl) {big : List Cond} (hb : ∀ w ∈ rt_tbl, w ∈ big) : GoodIn big ws := fun w hw => ⟨hb w (h w hw), good_of_word (List.mem_filter.mp (h w hw)).2⟩

