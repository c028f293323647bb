/-! ===== rules over the heap: fields, arrays, returns, calls ===== -/
/-- own's pool entry i is field kf of class ci, of a kind (0 int, 1 long, 2 a fixed cell, 3 a cell that may change) -/
def FLk (own : String) (i ci kf kind : Nat) : Prop := Cond.fieldLink own i (cT ci kf).1 (cT ci kf).2.1 (cT ci kf).2.2.1 ∈ rt_tbl ∧ kf < nfl ci ∧ fk ci kf = kind ∧ ci < 9
theorem cellE_o {ad : Nat → Nat} {cA : Nat → ClassId} {h : PH} {o ci : Nat} (hs : shp o = some (.inl ci)) : cellE ad cA h o = .inr (ci, fvs ad h ci o) := by
  unfold cellE; rw [hs]
theorem cellE_l {ad : Nat → Nat} {cA : Nat → ClassId} {h : PH} {o n : Nat} (hs : shp o = some (.inr (.long, n))) : cellE ad cA h o = .inl (cA o, n, .inr (.inl (h.2 o))) := by
  unfold cellE; rw [hs]
theorem cellE_i {ad : Nat → Nat} {cA : Nat → ClassId} {h : PH} {o n : Nat} {ty : FieldType} (hs : shp o = some (.inr (ty, n))) (ht : ty ≠ .long) : cellE ad cA h o = .inl (cA o, n, .inl (h.1 o)) := by
  unfold cellE; rw [hs]; cases ty <;> first | rfl | exact absurd rfl ht
theorem fvs_get {ad : Nat → Nat} {h : PH} {ci o k : Nat} (hk : k < nfl ci) : (fvs ad h ci o)[k]? = some (tr ad (fval h ci o k)) := by
  simp [fvs, hk]
theorem fvs_set {ad : Nat → Nat} {h h' : PH} {ci o k : Nat} {v : Value} (hv : v = tr ad (fval h' ci o k)) (h1 : ∀ j, j ≠ k → h'.1 o j = h.1 o j) (h2 : ∀ j, j ≠ k → h'.2 o j = h.2 o j) : (fvs ad h ci o).set k v = fvs ad h' ci o := by
  subst hv
  apply List.ext_getElem?
  intro j
  by_cases e : j = k
  · subst e
    by_cases hj : j < nfl ci
    · rw [fvs_get hj, List.getElem?_set_self (by simpa [fvs] using hj)]
    · rw [List.getElem?_eq_none (by simpa [fvs] using hj), List.getElem?_eq_none (by simpa [fvs] using hj)]
  · rw [List.getElem?_set_ne (Ne.symm e)]
    by_cases hj : j < nfl ci
    · rw [fvs_get hj, fvs_get hj, fval_c (h1 j e) (h2 j e)]
    · rw [List.getElem?_eq_none (by simpa [fvs] using hj), List.getElem?_eq_none (by simpa [fvs] using hj)]
theorem fval_0 {h : PH} {ci o k : Nat} (e : fk ci k = 0) : fval h ci o k = .int (h.1 o k) := by simp only [fval, e]
theorem fval_1 {h : PH} {ci o k : Nat} (e : fk ci k = 1) : fval h ci o k = .long (h.2 o k) := by simp only [fval, e]
theorem fval_2 {h : PH} {ci o k : Nat} (e : fk ci k = 2) : fval h ci o k = .ref (o + offs ci k) := by simp only [fval, e]
theorem fval_3 {h : PH} {ci o k : Nat} (e : fk ci k = 3) : fval h ci o k = .ref (h.1 o k).toNatClampNeg := by simp only [fval, e]
section RTH
variable {M : MI} {dp pc : Nat} {lv : List (Option Value)} {st : List Value} {h : PH} {Q : Option Value → PH → Prop}
theorem rt_get {i ci kf kind o : Nat} {v : Value} (hd : decode M.2.1 pc = .ok (.getfield i, 3)) (hf : FLk M.1.cls i ci kf kind) (hs : shp o = some (.inl ci)) (hv : fval h ci o kf = v) (k : RT M dp (pc + 3) lv (v :: st) h Q) : RT M dp pc lv (.ref o :: st) h Q := by
  subst hv
  intro p l e s m args below meth c D cA tys A ad H locs ls C hP hD hS hl
  refine va_get (C := cR ci) (T := cT ci) (N := nfl ci) (ref := (cT ci kf).1) C.1 C.2.1 C.2.2.2.2.1 (in_tbl hf.2.2.2) C.2.2.2.1 C.2.2.2.2.2.2.2.1 hP o (fs := fvs ad h ci o) ?_ (vwCl_at hf.2.2.2) kf hf.2.1 (C.2.2.2.2.1 _ hf.1) (fun _ q => q) (fvs_get hf.2.1) hd (k p l e s m args below meth c D cA tys A ad H locs ls C hP hD hS hl)
  rw [wld_get (shp_lt hs), cellE_o hs]
theorem r_getI {i ci kf o : Nat} (hd : decode M.2.1 pc = .ok (.getfield i, 3)) (hf : FLk M.1.cls i ci kf 0) (hs : shp o = some (.inl ci)) (k : RT M dp (pc + 3) lv (.int (h.1 o kf) :: st) h Q) : RT M dp pc lv (.ref o :: st) h Q := rt_get hd hf hs (fval_0 hf.2.2.1) k
theorem r_getL {i ci kf o : Nat} (hd : decode M.2.1 pc = .ok (.getfield i, 3)) (hf : FLk M.1.cls i ci kf 1) (hs : shp o = some (.inl ci)) (k : RT M dp (pc + 3) lv (.long (h.2 o kf) :: st) h Q) : RT M dp pc lv (.ref o :: st) h Q := rt_get hd hf hs (fval_1 hf.2.2.1) k
theorem r_getR {i ci kf o a : Nat} (hd : decode M.2.1 pc = .ok (.getfield i, 3)) (hf : FLk M.1.cls i ci kf 2) (hs : shp o = some (.inl ci)) (ha : o + offs ci kf = a) (k : RT M dp (pc + 3) lv (.ref a :: st) h Q) : RT M dp pc lv (.ref o :: st) h Q := rt_get hd hf hs ((fval_2 hf.2.2.1).trans (by rw [ha])) k
theorem r_getD {i ci kf o a : Nat} (hd : decode M.2.1 pc = .ok (.getfield i, 3)) (hf : FLk M.1.cls i ci kf 3) (hs : shp o = some (.inl ci)) (ha : (h.1 o kf).toNatClampNeg = a) (k : RT M dp (pc + 3) lv (.ref a :: st) h Q) : RT M dp pc lv (.ref o :: st) h Q := rt_get hd hf hs ((fval_3 hf.2.2.1).trans (by rw [ha])) k
theorem rt_put {i ci kf kind o : Nat} {v : Value} {h' : PH} (hd : decode M.2.1 pc = .ok (.putfield i, 3)) (hf : FLk M.1.cls i ci kf kind) (hs : shp o = some (.inl ci)) (hfin : (cT ci kf).2.2.2 = false) (hn : ∀ ad : Nat → Nat, narrow (cTy ci kf) (tr ad v) = tr ad v) (hfit : ∀ ad : Nat → Nat, fits (cTy ci kf) (tr ad v) = true) (hv : v = fval h' ci o kf) (h1 : ∀ a j, (a ≠ o ∨ j ≠ kf) → h'.1 a j = h.1 a j) (h2 : ∀ a j, (a ≠ o ∨ j ≠ kf) → h'.2 a j = h.2 a j) (k : RT M dp (pc + 3) lv st h' Q) : RT M dp pc lv (v :: .ref o :: st) h Q := by
  intro p l e s m args below meth c D cA tys A ad H locs ls C hP hD hS hl
  have hg : (wld ad cA h)[o]? = some (ad o, .inr (ci, fvs ad h ci o)) := by rw [wld_get (shp_lt hs), cellE_o hs]
  refine va_put (C := cR ci) (T := cT ci) (N := nfl ci) (ref := (cT ci kf).1) C.1 C.2.1 C.2.2.2.2.1 (in_tbl hf.2.2.2) (cTy ci) (cTy_ok hf.2.2.2) (cNm_ok hf.2.2.2) C.2.2.2.1 C.2.2.2.2.2.2.2.1 hP hD hS o hg (vwCl_at hf.2.2.2) kf hf.2.1 (C.2.2.2.2.1 _ hf.1) (fun _ q => q) hfin (cTy_ok hf.2.2.2 kf hf.2.1) (hn ad) (hfit ad) (by simp [fvs]; exact hf.2.1) hd (fun H1 locs1 hP1 hD1 hS1 => ?_)
  rw [wld_set (h' := h') (by rw [cellE_o hs, fvs_set (by rw [hv]) (fun j hj => h1 o j (Or.inr hj)) (fun j hj => h2 o j (Or.inr hj))]) (fun a ha => cellE_c (funext fun j => h1 a j (Or.inl ha)) (funext fun j => h2 a j (Or.inl ha)))] at hP1 hD1
  exact k p l e s m args below meth c D cA tys A ad H1 locs1 ls C hP1 hD1 hS1 hl
theorem pI_ne {h : PH} {o kf : Nat} {x : Int32} : ∀ a j, (a ≠ o ∨ j ≠ kf) → (pI h o kf x).1 a j = h.1 a j := by
  intro a j hj
  show (if a = o ∧ j = kf then x else h.1 a j) = _
  rw [if_neg (fun q => hj.elim (fun e => e q.1) (fun e => e q.2))]
theorem pL_ne {h : PH} {o kf : Nat} {x : Int64} : ∀ a j, (a ≠ o ∨ j ≠ kf) → (pL h o kf x).2 a j = h.2 a j := by
  intro a j hj
  show (if a = o ∧ j = kf then x else h.2 a j) = _
  rw [if_neg (fun q => hj.elim (fun e => e q.1) (fun e => e q.2))]
theorem pI_eq {h : PH} {o kf : Nat} {x : Int32} : (pI h o kf x).1 o kf = x := by simp [pI]
theorem pL_eq {h : PH} {o kf : Nat} {x : Int64} : (pL h o kf x).2 o kf = x := by simp [pL]
theorem r_putI {i ci kf o : Nat} {x : Int32} (hd : decode M.2.1 pc = .ok (.putfield i, 3)) (hf : FLk M.1.cls i ci kf 0) (hs : shp o = some (.inl ci)) (hfin : (cT ci kf).2.2.2 = false) (hty : cTy ci kf = .int) (k : RT M dp (pc + 3) lv st (pI h o kf x) Q) : RT M dp pc lv (.int x :: .ref o :: st) h Q :=
  rt_put hd hf hs hfin (fun ad => by rw [hty]; rfl) (fun ad => by rw [hty]; rfl) (by rw [fval_0 hf.2.2.1, pI_eq]) pI_ne (fun _ _ _ => rfl) k
theorem r_putZ {i ci kf o : Nat} {x : Int32} (hd : decode M.2.1 pc = .ok (.putfield i, 3)) (hf : FLk M.1.cls i ci kf 0) (hs : shp o = some (.inl ci)) (hfin : (cT ci kf).2.2.2 = false) (hty : cTy ci kf = .boolean) (hx : x = 0 ∨ x = 1) (k : RT M dp (pc + 3) lv st (pI h o kf x) Q) : RT M dp pc lv (.int x :: .ref o :: st) h Q :=
  rt_put hd hf hs hfin (fun ad => by rw [hty]; rcases hx with rfl | rfl <;> rfl) (fun ad => by rw [hty]; rcases hx with rfl | rfl <;> rfl) (by rw [fval_0 hf.2.2.1, pI_eq]) pI_ne (fun _ _ _ => rfl) k
theorem r_putL {i ci kf o : Nat} {x : Int64} (hd : decode M.2.1 pc = .ok (.putfield i, 3)) (hf : FLk M.1.cls i ci kf 1) (hs : shp o = some (.inl ci)) (hfin : (cT ci kf).2.2.2 = false) (hty : cTy ci kf = .long) (k : RT M dp (pc + 3) lv st (pL h o kf x) Q) : RT M dp pc lv (.long x :: .ref o :: st) h Q :=
  rt_put (h' := pL h o kf x) hd hf hs hfin (fun ad => by rw [hty]; rfl) (fun ad => by rw [hty]; rfl) (by rw [fval_1 hf.2.2.1, pL_eq]) (fun _ _ _ => rfl) pL_ne k
theorem r_putD {i ci kf o a : Nat} {ty : FieldType} (hd : decode M.2.1 pc = .ok (.putfield i, 3)) (hf : FLk M.1.cls i ci kf 3) (hs : shp o = some (.inl ci)) (hfin : (cT ci kf).2.2.2 = false) (hty : cTy ci kf = .array ty) (ha : a < 2 ^ 31) (k : RT M dp (pc + 3) lv st (pI h o kf (nI a)) Q) : RT M dp pc lv (.ref a :: .ref o :: st) h Q :=
  rt_put hd hf hs hfin (fun ad => by rw [hty]; rfl) (fun ad => by rw [hty]; rfl) (by rw [fval_3 hf.2.2.1, pI_eq, nI_clamp ha]) pI_ne (fun _ _ _ => rfl) k

theorem r_iald {i : Int32} {o n : Nat} (hd : decode M.2.1 pc = .ok (.iaload, 1)) (hs : shp o = some (.inr (.int, n))) (hi : vp_in i n) (k : RT M dp (pc + 1) lv (.int (h.1 o i.toNatClampNeg) :: st) h Q) : RT M dp pc lv (.int i :: .ref o :: st) h Q := by
  intro p l e s m args below meth c D cA tys A ad H locs ls C hP hD hS hl
  obtain ⟨t0, ht⟩ := C.2.2.2.2.2.2.2.2.1 o _ n hs
  refine va_iald C.1 C.2.1 C.2.2.2.2.2.2.2.1 hP o t0 (cA := cA o) (n := n) (f := h.1 o) ?_ ht hi hd (k p l e s m args below meth c D cA tys A ad H locs ls C hP hD hS hl)
  rw [wld_get (shp_lt hs), cellE_i hs (by decide)]
theorem r_bald {i : Int32} {o n : Nat} (hd : decode M.2.1 pc = .ok (.baload, 1)) (hs : shp o = some (.inr (.byte, n))) (hi : vp_in i n) (k : RT M dp (pc + 1) lv (.int (h.1 o i.toNatClampNeg) :: st) h Q) : RT M dp pc lv (.int i :: .ref o :: st) h Q := by
  intro p l e s m args below meth c D cA tys A ad H locs ls C hP hD hS hl
  obtain ⟨t0, ht⟩ := C.2.2.2.2.2.2.2.2.1 o _ n hs
  refine va_bald C.1 C.2.1 C.2.2.2.2.2.2.2.1 hP o t0 (cA := cA o) (n := n) (f := h.1 o) ?_ ht hi hd (k p l e s m args below meth c D cA tys A ad H locs ls C hP hD hS hl)
  rw [wld_get (shp_lt hs), cellE_i hs (by decide)]
theorem r_zald {i : Int32} {o n : Nat} (hd : decode M.2.1 pc = .ok (.baload, 1)) (hs : shp o = some (.inr (.boolean, n))) (hi : vp_in i n) (k : RT M dp (pc + 1) lv (.int (h.1 o i.toNatClampNeg) :: st) h Q) : RT M dp pc lv (.int i :: .ref o :: st) h Q := by
  intro p l e s m args below meth c D cA tys A ad H locs ls C hP hD hS hl
  obtain ⟨t0, ht⟩ := C.2.2.2.2.2.2.2.2.1 o _ n hs
  refine va_zald C.1 C.2.1 C.2.2.2.2.2.2.2.1 hP o t0 (cA := cA o) (n := n) (f := h.1 o) ?_ ht hi hd (k p l e s m args below meth c D cA tys A ad H locs ls C hP hD hS hl)
  rw [wld_get (shp_lt hs), cellE_i hs (by decide)]
theorem r_lald {i : Int32} {o n : Nat} (hd : decode M.2.1 pc = .ok (.laload, 1)) (hs : shp o = some (.inr (.long, n))) (hi : vp_in i n) (k : RT M dp (pc + 1) lv (.long (h.2 o i.toNatClampNeg) :: st) h Q) : RT M dp pc lv (.int i :: .ref o :: st) h Q := by
  intro p l e s m args below meth c D cA tys A ad H locs ls C hP hD hS hl
  obtain ⟨t0, ht⟩ := C.2.2.2.2.2.2.2.2.1 o _ n hs
  refine va_lald C.1 C.2.1 C.2.2.2.2.2.2.2.1 hP o t0 (cA := cA o) (n := n) (f := h.2 o) ?_ ht hi hd (k p l e s m args below meth c D cA tys A ad H locs ls C hP hD hS hl)
  rw [wld_get (shp_lt hs), cellE_l hs]
theorem r_iast {i x : Int32} {o n : Nat} (hd : decode M.2.1 pc = .ok (.iastore, 1)) (hs : shp o = some (.inr (.int, n))) (hi : vp_in i n) (k : RT M dp (pc + 1) lv st (pI h o i.toNatClampNeg x) Q) : RT M dp pc lv (.int x :: .int i :: .ref o :: st) h Q := by
  intro p l e s m args below meth c D cA tys A ad H locs ls C hP hD hS hl
  obtain ⟨t0, ht⟩ := C.2.2.2.2.2.2.2.2.1 o _ n hs
  refine va_iast C.1 C.2.1 C.2.2.2.2.2.2.2.1 hP hD hS o t0 (cA := cA o) (n := n) (f := h.1 o) (by rw [wld_get (shp_lt hs), cellE_i hs (by decide)]) ht hi hd (fun H1 locs1 hP1 hD1 hS1 => ?_)
  rw [wld_set (h' := pI h o i.toNatClampNeg x) (by rw [cellE_i hs (by decide)]; refine congrArg (fun f => Sum.inl (cA o, n, Sum.inl f)) (funext fun j => ?_); simp [pI, upd]) (fun a ha => cellE_c (h := h) (funext fun j => pI_ne a j (Or.inl ha)) rfl)] at hP1 hD1
  exact k p l e s m args below meth c D cA tys A ad H1 locs1 ls C hP1 hD1 hS1 hl
theorem r_bast {i x : Int32} {o n : Nat} (hd : decode M.2.1 pc = .ok (.bastore, 1)) (hs : shp o = some (.inr (.byte, n))) (hi : vp_in i n) (k : RT M dp (pc + 1) lv st (pI h o i.toNatClampNeg (x.toInt8.toInt32)) Q) : RT M dp pc lv (.int x :: .int i :: .ref o :: st) h Q := by
  intro p l e s m args below meth c D cA tys A ad H locs ls C hP hD hS hl
  obtain ⟨t0, ht⟩ := C.2.2.2.2.2.2.2.2.1 o _ n hs
  refine va_bast C.1 C.2.1 C.2.2.2.2.2.2.2.1 hP hD hS o t0 (cA := cA o) (n := n) (f := h.1 o) (by rw [wld_get (shp_lt hs), cellE_i hs (by decide)]) ht hi hd (fun H1 locs1 hP1 hD1 hS1 => ?_)
  rw [wld_set (h' := pI h o i.toNatClampNeg (x.toInt8.toInt32)) (by rw [cellE_i hs (by decide)]; refine congrArg (fun f => Sum.inl (cA o, n, Sum.inl f)) (funext fun j => ?_); simp [pI, upd, vp_nar_byte]) (fun a ha => cellE_c (h := h) (funext fun j => pI_ne a j (Or.inl ha)) rfl)] at hP1 hD1
  exact k p l e s m args below meth c D cA tys A ad H1 locs1 ls C hP1 hD1 hS1 hl
theorem r_zast {i x : Int32} {o n : Nat} (hd : decode M.2.1 pc = .ok (.bastore, 1)) (hs : shp o = some (.inr (.boolean, n))) (hi : vp_in i n) (k : RT M dp (pc + 1) lv st (pI h o i.toNatClampNeg (vp_nar .boolean x)) Q) : RT M dp pc lv (.int x :: .int i :: .ref o :: st) h Q := by
  intro p l e s m args below meth c D cA tys A ad H locs ls C hP hD hS hl
  obtain ⟨t0, ht⟩ := C.2.2.2.2.2.2.2.2.1 o _ n hs
  refine va_zast C.1 C.2.1 C.2.2.2.2.2.2.2.1 hP hD hS o t0 (cA := cA o) (n := n) (f := h.1 o) (by rw [wld_get (shp_lt hs), cellE_i hs (by decide)]) ht hi hd (fun H1 locs1 hP1 hD1 hS1 => ?_)
  rw [wld_set (h' := pI h o i.toNatClampNeg (vp_nar .boolean x)) (by rw [cellE_i hs (by decide)]; refine congrArg (fun f => Sum.inl (cA o, n, Sum.inl f)) (funext fun j => ?_); simp [pI, upd]) (fun a ha => cellE_c (h := h) (funext fun j => pI_ne a j (Or.inl ha)) rfl)] at hP1 hD1
  exact k p l e s m args below meth c D cA tys A ad H1 locs1 ls C hP1 hD1 hS1 hl
theorem r_last {i : Int32} {x : Int64} {o n : Nat} (hd : decode M.2.1 pc = .ok (.lastore, 1)) (hs : shp o = some (.inr (.long, n))) (hi : vp_in i n) (k : RT M dp (pc + 1) lv st (pL h o i.toNatClampNeg x) Q) : RT M dp pc lv (.long x :: .int i :: .ref o :: st) h Q := by
  intro p l e s m args below meth c D cA tys A ad H locs ls C hP hD hS hl
  obtain ⟨t0, ht⟩ := C.2.2.2.2.2.2.2.2.1 o _ n hs
  refine va_last C.1 C.2.1 C.2.2.2.2.2.2.2.1 hP hD hS o t0 (cA := cA o) (n := n) (f := h.2 o) (by rw [wld_get (shp_lt hs), cellE_l hs]) ht hi hd (fun H1 locs1 hP1 hD1 hS1 => ?_)
  rw [wld_set (h' := pL h o i.toNatClampNeg x) (by rw [cellE_l hs]; refine congrArg (fun f => Sum.inl (cA o, n, Sum.inr (Sum.inl f))) (funext fun j => ?_); simp [pL, vp_updL]) (fun a ha => cellE_c (h := h) rfl (funext fun j => pL_ne a j (Or.inl ha)))] at hP1 hD1
  exact k p l e s m args below meth c D cA tys A ad H1 locs1 ls C hP1 hD1 hS1 hl
theorem r_alen {o n : Nat} {ty : FieldType} (hd : decode M.2.1 pc = .ok (.arraylength, 1)) (hs : shp o = some (.inr (ty, n))) (k : RT M dp (pc + 1) lv (.int (nI n) :: st) h Q) : RT M dp pc lv (.ref o :: st) h Q := by
  intro p l e s m args below meth c D cA tys A ad H locs ls C hP hD hS hl
  obtain ⟨t0, ht⟩ := C.2.2.2.2.2.2.2.2.1 o _ n hs
  by_cases hty : ty = .long
  · subst hty
    exact va_alen C.1 C.2.1 C.2.2.2.2.2.2.2.1 hP o t0 (x := (n, .inr (.inl (h.2 o)))) (by rw [wld_get (shp_lt hs), cellE_l hs]) ht rfl hd (k p l e s m args below meth c D cA tys A ad H locs ls C hP hD hS hl)
  · exact va_alen C.1 C.2.1 C.2.2.2.2.2.2.2.1 hP o t0 (x := (n, .inl (h.1 o))) (by rw [wld_get (shp_lt hs), cellE_i hs hty]) ht rfl hd (k p l e s m args below meth c D cA tys A ad H locs ls C hP hD hS hl)
theorem r_iret {x : Int32} (hd : decode M.2.1 pc = .ok (.ireturn, 1)) (hr : M.2.2.2 = some .int) (q : Q (some (.int x)) h) : RT M dp pc lv [.int x] h Q := by
  intro p l e s m args below meth c D cA tys A ad H locs ls C hP hD hS hl
  exact W.iret C.1 C.2.1 (C.2.2.2.2.2.1.trans hr) (fun t ht _ => ⟨⟨some (.int x), h, rfl, ⟨q, by rw [hr]; exact rtOK_i (by decide)⟩, by rw [ht]; exact hP, hD⟩, hS.F ht⟩) hS.2.2 hd C.2.2.2.2.2.2.1
theorem r_zret {x : Int32} {ty : FieldType} (hd : decode M.2.1 pc = .ok (.ireturn, 1)) (hr : M.2.2.2 = some ty) (hn : narrow ty (.int x) = .int x) (q : Q (some (.int x)) h) (hz : some ty ≠ some FieldType.long := by decide) : RT M dp pc lv [.int x] h Q := by
  intro p l e s m args below meth c D cA tys A ad H locs ls C hP hD hS hl
  exact W.zret C.1 C.2.1 (C.2.2.2.2.2.1.trans hr) hn (fun t ht _ => ⟨⟨some (.int x), h, rfl, ⟨q, by rw [hr]; exact rtOK_i hz⟩, by rw [ht]; exact hP, hD⟩, hS.F ht⟩) hS.2.2 hd C.2.2.2.2.2.2.1
theorem r_lret {x : Int64} (hd : decode M.2.1 pc = .ok (.lreturn, 1)) (hr : M.2.2.2 = some .long) (q : Q (some (.long x)) h) : RT M dp pc lv [.long x] h Q := by
  intro p l e s m args below meth c D cA tys A ad H locs ls C hP hD hS hl
  exact W.lret C.1 C.2.1 (C.2.2.2.2.2.1.trans hr) (fun t ht _ => ⟨⟨some (.long x), h, rfl, ⟨q, by rw [hr]; exact rtOK_l⟩, by rw [ht]; exact hP, hD⟩, hS.F ht⟩) hS.2.2 hd C.2.2.2.2.2.2.1
theorem r_vret (hd : decode M.2.1 pc = .ok (.return_, 1)) (hr : M.2.2.2 = none) (q : Q none h) : RT M dp pc lv [] h Q := by
  intro p l e s m args below meth c D cA tys A ad H locs ls C hP hD hS hl
  exact W.vret C.1 C.2.1 (C.2.2.2.2.2.1.trans hr) (fun t ht _ => ⟨⟨none, h, rfl, ⟨q, by rw [hr]; exact rtOK_n⟩, by rw [ht]; exact hP, hD⟩, hS.F ht⟩) hS.2.2 hd C.2.2.2.2.2.2.1
end RTH
