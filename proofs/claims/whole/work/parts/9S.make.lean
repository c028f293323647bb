/-! ===== constructors: cells made one behind another from ad 0 on ===== -/
def hp0 : PH := (fun o k => if o = 0 ∧ k = 3 then -1 else if o = 2 ∧ k = 1 then 13 else if o = 74 ∧ k = 3 then -1 else if o = 74 ∧ k = 44 then -1 else if o = 74 ∧ k = 46 then 100 else 0, fun _ _ => 0)
def nsC : List (String × Nat × MethodName) := [(RX7, 21, yX3_init), (RX7, 28, yX6_init), (RX7, 46, yX0_init), (RX7, 53, yX1_init), (RX3, 11, yX2_init), (RX6, 11, yX2_init), (RX6, 20, yX5_init), (RX6, 27, yX4_init)]
def nwC (U : State) : Prop := ∀ q ∈ nsC, va_Nw (.methodLinkNest q.1 q.2.1 q.2.2 "RingWaters") U
/-- the object at o with the fields fs, and j cells behind it as they stay -/
def KH (D : va_G) (cA : Nat → ClassId) (ad : Nat → Nat) (o ci j : Nat) (fs : List Value) (H : Heap) : Prop := H.size = ad 0 + (o + 1 + j) ∧ va_at D vwCl (ad o, .inr (ci, fs.map (tr ad))) H ∧ ∀ k, k < j → va_at D vwCl (ad (o + 1 + k), cellE ad cA hp0 (o + 1 + k)) H
def KF (D : va_G) (cA : Nat → ClassId) (ad : Nat → Nat) (o n : Nat) (H : Heap) : Prop := H.size = ad 0 + (o + 1 + n) ∧ ∀ k, k < n + 1 → va_at D vwCl (ad (o + k), cellE ad cA hp0 (o + k)) H
def adOK (ad : Nat → Nat) : Prop := ∀ o, o < 100 → ad o = ad 0 + o
def ktR (dp n sl : Nat) : Room := { frames := dp, cells := n, slots := sl, locals := 34 * dp }
def KPc (D : va_G) (cA : Nat → ClassId) (tys : List (ClassId × FieldType)) (ad : Nat → Nat) (o ci : Nat) (fs : List Value) : Array Value → State → Prop := fun v U =>
  v = #[Value.ref (ad o)] ∧ KH D cA ad o ci 0 fs U.heap ∧ va_K D vwCl tys U ∧ nwC U
def KQ (D : va_G) (cA : Nat → ClassId) (ad : Nat → Nat) (o n : Nat) : Array Value → State → Outcome → State → Prop := fun _ st oc t =>
  (oc = .returned none ∧ KF D cA ad o n t.heap) ∧ va_F (fun q => ad o ≤ q) st t
def KCon (M : MI) (dp o ci n sl : Nat) (fs : List Value) : Prop :=
  ∀ (l : Launch) (D : va_G) (cA : Nat → ClassId) (tys : List (ClassId × FieldType)) (ad : Nat → Nat), RTy cA tys → adOK ad → Met l M.1 (rt_ws M) (ktR dp n sl) (KPc D cA tys ad o ci fs) (KQ D cA ad o n) n sl (fun q => ad o ≤ q)
def KCx (M : MI) (p : Program) (s : State) (m : MethodId) (args : Array Value) (meth : Method) (c : Code) (D : va_G) (cA : Nat → ClassId) (tys : List (ClassId × FieldType)) (ad : Nat → Nat) : Prop :=
  p.tables.exec = Jvm.exec ∧ c.code = M.2.1 ∧ c.maxLocals = 1 ∧ s.vm.findClass M.1.cls = some m.cls ∧ (∀ w ∈ rt_tbl, w.before args s = true) ∧ meth.sig.returnType = none ∧ meth.locks = false ∧ va_K D vwCl tys s ∧ RTy cA tys ∧ meth.name = "<init>" ∧ adOK ad ∧ nwC s
def KT (M : MI) (dp o ci n sl j sj : Nat) (fs : List Value) (pc : Nat) (st : List Value) : Prop :=
  ∀ (p : Program) (l : Launch) (e : Env) (s : State) (m : MethodId) (args : Array Value) (below : List Frame) (meth : Method) (c : Code) (D : va_G) (cA : Nat → ClassId) (tys : List (ClassId × FieldType)) (ad : Nat → Nat) (H : Heap) (locs : List Loc) (ls : Array Slot),
    KCx M p s m args meth c D cA tys ad → KH D cA ad o ci j fs H → va_S (fun q => ad o ≤ q) s.heap H locs → lv_has ls 1 [(0, .ref (ad o))] →
    W p l e (ktR dp n sl) s m args below meth c H locs j sj (MQ below (KQ D cA ad o n) args s n sl (fun q => ad o ≤ q)) (F0 m pc ls (st.map (tr ad)))
theorem nwC.warm {s U : State} (h : nwC s) (hW : s.WarmedH U.vm) : nwC U := fun q hq => (h q hq).warmM hW
theorem KPc.blind {D : va_G} {cA : Nat → ClassId} {tys : List (ClassId × FieldType)} {ad : Nat → Nat} {o ci : Nat} {fs : List Value} : FrameBlind (KPc D cA tys ad o ci fs) := by
  intro a U g mk q
  obtain ⟨q0, qP, qK, qE⟩ := q
  exact ⟨q0, qP, va_K.moved (u := U) (U := U.calling g mk a) (Vm.Alike.refl U.vm) qK, fun x hx => (qE x hx).same rfl rfl⟩
theorem KCon.of {M : MI} {dp o ci n sl : Nat} {fs : List Value} (hy : plainName M.1.cls = true) (hL : M.2.2.1 = 1) (hN : M.1.name = "<init>") (hr : M.2.2.2 = none) (k : KT M dp o ci n sl 0 0 fs 0 []) : KCon M dp o ci n sl fs := by
  intro l D cA tys ad hT had
  refine Met.ofW (cc := M.2.1) (maxL := M.2.2.1) (ret := M.2.2.2) hy rfl ?_
  intro p e s m args below meth c s₁ B hml hv
  obtain ⟨rfl, hH, hK, hE⟩ := hv
  have hts := atoms_spec (ws := rt_ws M) B.pre
  have hl := lv_entry [Value.ref (ad o)] (n := 1) (Nat.le_of_ble_eq_true rfl)
  rw [hL]
  rw [show (#[Value.ref (ad o)] : Array Value) = ([Value.ref (ad o)] : List Value).toArray from rfl]
  rw [lg_entry_eq]
  have hin : meth.name = "<init>" := ((name_of_methodNamed B.named B.method).1).trans hN
  exact k p l e s m _ below meth c D cA tys ad s.heap [] _ ⟨B.exec, B.bytes, hml.trans hL, findClass_of_methodNamed B.named, fun w hw => hts w (List.mem_cons_of_mem _ hw), B.returns.trans hr, B.notSynchronized, hK, hT, hin, had, hE⟩ hH va_S.rf hl
section KTR
variable {M : MI} {dp o ci n sl j sj : Nat} {fs : List Value} {pc : Nat} {st : List Value}
theorem kt_aload {i : Fin 4} (hd : decode M.2.1 pc = .ok (.aload_n i, 1)) (hi : (i : Nat) = 0) (k : KT M dp o ci n sl j sj fs (pc + 1) (.ref o :: st)) : KT M dp o ci n sl j sj fs pc st := by
  intro p l e s m args below meth c D cA tys ad H locs ls C hH hS hl
  exact lv_aload_n C.1 C.2.1 hd hi (lv_at hl 0 rfl) (k p l e s m args below meth c D cA tys ad H locs ls C hH hS hl)
theorem kt_iconst {x : Int} {v : Int32} (hd : decode M.2.1 pc = .ok (.iconst x, 1)) (hv : Int32.ofInt x = v) (k : KT M dp o ci n sl j sj fs (pc + 1) (.int v :: st)) : KT M dp o ci n sl j sj fs pc st := by
  intro p l e s m args below meth c D cA tys ad H locs ls C hH hS hl
  exact lv_iconst C.1 C.2.1 hd hv (k p l e s m args below meth c D cA tys ad H locs ls C hH hS hl)
theorem kt_bipush {x : Int} {v : Int32} (hd : decode M.2.1 pc = .ok (.bipush x, 2)) (hv : (Int8.ofInt x).toInt32 = v) (k : KT M dp o ci n sl j sj fs (pc + 2) (.int v :: st)) : KT M dp o ci n sl j sj fs pc st := by
  intro p l e s m args below meth c D cA tys ad H locs ls C hH hS hl
  exact lv_bipush C.1 C.2.1 hd hv (k p l e s m args below meth c D cA tys ad H locs ls C hH hS hl)
theorem kt_sipush {x : Int} {v : Int32} (hd : decode M.2.1 pc = .ok (.sipush x, 3)) (hv : (Int16.ofInt x).toInt32 = v) (k : KT M dp o ci n sl j sj fs (pc + 3) (.int v :: st)) : KT M dp o ci n sl j sj fs pc st := by
  intro p l e s m args below meth c D cA tys ad H locs ls C hH hS hl
  exact lv_sipush C.1 C.2.1 hd hv (k p l e s m args below meth c D cA tys ad H locs ls C hH hS hl)
theorem kt_obj {i : Nat} (hd : decode M.2.1 pc = .ok (.invokespecial i, 3)) (hlk : Cond.methodLink M.1.cls i Lib.objectInit ∈ rt_tbl) (h1 : Cond.instanceMethod Lib.objectInit ∈ rt_tbl ∧ Cond.code Lib.objectInit ⟨#[0xb1]⟩ 1 none ∈ rt_tbl) (hdp : 0 < dp) (k : KT M dp o ci n sl j sj fs (pc + 3) []) : KT M dp o ci n sl j sj fs pc [.ref o] := by
  intro p l e s m args below meth c D cA tys ad H locs ls C hH hS hl
  refine W.objInit C.1 C.2.1 C.2.2.2.1 (C.2.2.2.2.1 _ hlk) (C.2.2.2.2.1 _ h1.1) (C.2.2.2.2.1 _ h1.2) rfl (by rw [C.2.2.1]; exact hl.1) rfl hd (show 1 ≤ dp from hdp) (by show 2 * 0 + 0 + 12 ≤ 34 * dp; omega) ?_
  exact k p l e s m args below meth c D cA tys ad H locs ls C hH hS hl
theorem kt_ret (hd : decode M.2.1 pc = .ok (.return_, 1)) (hs : shp o = some (.inl ci)) (hf : ∀ ad : Nat → Nat, fs.map (tr ad) = fvs ad hp0 ci o) (hj : j = n) (hsj : sj = sl) : KT M dp o ci n sl j sj fs pc [] := by
  subst hj; subst hsj
  intro p l e s m args below meth c D cA tys ad H locs ls C hH hS hl
  refine W.vret C.1 C.2.1 C.2.2.2.2.2.1 (fun t ht hW => ⟨⟨rfl, by rw [ht]; exact hH.1, fun k hk => ?_⟩, hS.F ht⟩) hS.2.2 hd C.2.2.2.2.2.2.1
  rw [ht]
  rcases Nat.eq_zero_or_pos k with rfl | hp
  · rw [Nat.add_zero, cellE_o hs, ← hf ad]
    exact hH.2.1
  · have := hH.2.2 (k - 1) (by omega)
    rwa [show o + 1 + (k - 1) = o + k by omega] at this
theorem kt_getT {i kf kind : Nat} {v : Value} (hd : decode M.2.1 pc = .ok (.getfield i, 3)) (hf : FLk M.1.cls i ci kf kind) (hv : fs[kf]? = some v) (k : KT M dp o ci n sl j sj fs (pc + 3) (v :: st)) : KT M dp o ci n sl j sj fs pc (.ref o :: st) := by
  intro p l e s m args below meth c D cA tys ad H locs ls C hH hS hl
  exact va_get (C := cR ci) (T := cT ci) (N := nfl ci) (ref := (cT ci kf).1) C.1 C.2.1 C.2.2.2.2.1 (in_tbl hf.2.2.2) C.2.2.2.1 C.2.2.2.2.2.2.2.1 (ws := [(ad o, .inr (ci, fs.map (tr ad)))]) (fun k q hq => by
    have hz : k < 1 := (List.getElem?_eq_some_iff.mp hq).1
    rw [show k = 0 by omega] at hq
    cases hq
    exact hH.2.1) 0 rfl (vwCl_at hf.2.2.2) kf hf.2.1 (C.2.2.2.2.1 _ hf.1) (fun _ q => q) (by rw [List.getElem?_map, hv]; rfl) hd (k p l e s m args below meth c D cA tys ad H locs ls C hH hS hl)
theorem kt_getC {i kf kind x cx : Nat} {v : Value} (hd : decode M.2.1 pc = .ok (.getfield i, 3)) (hf : FLk M.1.cls i cx kf kind) (hx : o < x ∧ x < o + 1 + j) (hs : shp x = some (.inl cx)) (hv : fval hp0 cx x kf = v) (k : KT M dp o ci n sl j sj fs (pc + 3) (v :: st)) : KT M dp o ci n sl j sj fs pc (.ref x :: st) := by
  subst hv
  intro p l e s m args below meth c D cA tys ad H locs ls C hH hS hl
  refine va_get (C := cR cx) (T := cT cx) (N := nfl cx) (ref := (cT cx kf).1) C.1 C.2.1 C.2.2.2.2.1 (in_tbl hf.2.2.2) C.2.2.2.1 C.2.2.2.2.2.2.2.1 (ws := [(ad x, .inr (cx, fvs ad hp0 cx x))]) (fun k q hq => ?_) 0 rfl (vwCl_at hf.2.2.2) kf hf.2.1 (C.2.2.2.2.1 _ hf.1) (fun _ q => q) (fvs_get hf.2.1) hd (k p l e s m args below meth c D cA tys ad H locs ls C hH hS hl)
  have hz : k < 1 := (List.getElem?_eq_some_iff.mp hq).1
  rw [show k = 0 by omega] at hq
  cases hq
  have := hH.2.2 (x - (o + 1)) (by omega)
  rwa [show o + 1 + (x - (o + 1)) = x by omega, cellE_o hs] at this
theorem kt_put {i kf kind : Nat} {v : Value} (hd : decode M.2.1 pc = .ok (.putfield i, 3)) (hf : FLk M.1.cls i ci kf kind) (hown : (cT ci kf).1 = M.1.cls) (hn : ∀ ad : Nat → Nat, narrow (cTy ci kf) (tr ad v) = tr ad v) (hfit : ∀ ad : Nat → Nat, fits (cTy ci kf) (tr ad v) = true) (hlen : kf < fs.length) (ho : o + j < 99) (k : KT M dp o ci n sl j sj (fs.set kf v) (pc + 3) st) : KT M dp o ci n sl j sj fs pc (v :: .ref o :: st) := by
  intro p l e s m args below meth c D cA tys ad H locs ls C hH hS hl
  have hb : ∀ x, x < 100 → ad x = ad 0 + x := C.2.2.2.2.2.2.2.2.2.2.1
  have hty := cTy_ok hf.2.2.2 kf hf.2.1
  have hap := va_apart (own := M.1.cls) (cl := vwCl) C.2.2.2.2.1 (in_tbl hf.2.2.2) (cTy ci) (cTy_ok hf.2.2.2) (cNm_ok hf.2.2.2) C.2.2.2.2.2.2.2.1 (vwCl_at hf.2.2.2)
  obtain ⟨r, h1, cell, q1, q2, q3, q4⟩ := hH.2.1
  have hr : r = (cR ci, cT ci, nfl ci) := Option.some.inj (h1.symm.trans (vwCl_at hf.2.2.2))
  subst hr
  obtain ⟨hSl, hfc, kC, hkC, hkind⟩ := C.2.2.2.2.2.2.2.1.1 ci _ (vwCl_at hf.2.2.2)
  obtain ⟨cf, kf', fi, f, hi, hsl⟩ := hSl kf hf.2.1
  have hlay := C.2.2.2.2.1 _ (in_tbl hf.2.2.2 _ (u_in_lay hf.2.1))
  have hst := (u_facts hfc hkC (u_lays C.2.2.2.2.1 (in_tbl hf.2.2.2) hf.2.1) hi).1
  have fin : ∀ H' : Heap, H'[ad o]? = some (cell.setSlot f.slot (tr ad v)) → H'.size = H.size → (∀ q, q ≠ ad o → H'[q]? = H[q]?) → W p l e (ktR dp n sl) s m args below meth c H' (locs ++ [⟨ad o, f.slot⟩]) j sj (MQ below (KQ D cA ad o n) args s n sl (fun q => ad o ≤ q)) (F0 m (pc + 3) ls (st.map (tr ad))) := by
    intro H' e1 e2 e3
    rw [hsl] at e1
    refine k p l e s m args below meth c D cA tys ad H' _ ls C ⟨e2.trans hH.1, ⟨_, vwCl_at hf.2.2.2, ?_⟩, fun x hx => (hH.2.2 x hx).kept (e3 _ ?_)⟩ (hS.put e2 e3 (Nat.le_refl _)) hl
    · rw [List.map_set]
      exact t_OB.to (V := updV (vp_V (fs.map (tr ad))) kf (tr ad v)) ⟨_, e1, q2, q3, t_set q4 hap hf.2.1 (tr ad v)⟩ (fun x _ => vp_updV_set (by simpa using hlen) (tr ad v) x)
    · show ad (o + 1 + x) ≠ ad o
      rw [hb _ (by omega), hb o (by omega)]; omega
  have hlink := C.2.2.2.2.1 _ hf.1
  have hslot : f.slot < cell.slots.size := by rw [hsl]; exact k2_hasslot (q4 kf hf.2.1)
  unfold u_lay at hlay
  by_cases hfin : (cT ci kf).2.2.2 = true
  · rw [if_pos hfin] at hlay
    have hcf : m.cls = cf := by
      obtain ⟨_, _, c', _, _, _, -, -, hf', -, -, -, hown2, -⟩ := Cond.laysFinal_spec hlay
      have e1 : c' = cf := by have := hi.symm.trans hf'; simp at this; exact this.1.symm
      rw [hown] at hown2
      rw [← e1]; exact Option.some.inj (C.2.2.2.1.symm.trans hown2)
    have h6 := u_fits hfc hkC hkind (Or.inr hlay) hi hty (hn ad) (hfit ad)
    exact W.putFinK C.1 C.2.1 C.2.2.2.1 hlink hi hst hcf C.2.2.2.2.2.2.2.2.2.1 (by rw [q2]; exact h6) q1 q3 hslot rfl rfl hd fin
  · rw [if_neg hfin] at hlay
    have h6 := u_store hfc hkC hkind hlay hi hty (hn ad) (hfit ad)
    exact W.putK C.1 C.2.1 ⟨C.2.2.2.1, hlink, ⟨_, _, _, hi⟩, hst⟩ (by rw [q2]; exact h6) q1 q3 hslot rfl rfl hd fin
theorem hp0_z {x : Nat} {ty : FieldType} {N : Nat} (hs : shp x = some (.inr (ty, N))) : hp0.1 x = fun _ => 0 := by
  have e0 : x ≠ 0 := fun h => by subst h; cases hs
  have e2 : x ≠ 2 := fun h => by subst h; cases hs
  have e7 : x ≠ 74 := fun h => by subst h; cases hs
  funext k
  simp [hp0, e0, e2, e7]
theorem cell_z {ad : Nat → Nat} {cA : Nat → ClassId} {x N : Nat} {ty : FieldType} (hs : shp x = some (.inr (ty, N))) (hty : ty = .int ∨ ty = .byte ∨ ty = .boolean ∨ ty = .long) : ∃ a0 : vp_A, cellE ad cA hp0 x = .inl (cA x, a0) ∧ ∀ c : ClassId, vp_cell c a0 = arrV c N (fun _ => defaultValue ty) := by
  rcases hty with rfl | rfl | rfl | rfl
  · exact ⟨_, cellE_i hs (by decide), fun c => by rw [hp0_z hs]; rfl⟩
  · exact ⟨_, cellE_i hs (by decide), fun c => by rw [hp0_z hs]; rfl⟩
  · exact ⟨_, cellE_i hs (by decide), fun c => by rw [hp0_z hs]; rfl⟩
  · exact ⟨_, cellE_l hs, fun c => rfl⟩
theorem kt_newa {atype : ArrayType} {ty : FieldType} {v : Int32} {N : Nat} (hd : decode M.2.1 pc = .ok (.newarray atype, 2)) (hty : newarray.typeOf atype = ty) (ht4 : ty = .int ∨ ty = .byte ∨ ty = .boolean ∨ ty = .long) (harr : Cond.arrayClass ty ∈ rt_tbl) (hs : shp (o + 1 + j) = some (.inr (ty, N))) (hv : ¬ v < 0 ∧ v.toNatClampNeg = N) (hB : N * componentBytes ty ≤ 536870912) (hc : j + 1 ≤ n) (hsl : sj + N ≤ sl) (k : KT M dp o ci n sl (j + 1) (sj + N) fs (pc + 2) (.ref (o + 1 + j) :: st)) : KT M dp o ci n sl j sj fs pc (.int v :: st) := by
  subst hty
  intro p l e s m args below meth c D cA tys ad H locs ls C hH hS hl
  have hb : ∀ x, x < 100 → ad x = ad 0 + x := C.2.2.2.2.2.2.2.2.2.2.1
  have hlt := shp_lt hs
  obtain ⟨a0, ha0, hz⟩ := cell_z (ad := ad) (cA := cA) hs ht4
  obtain ⟨t0, ht0⟩ := C.2.2.2.2.2.2.2.2.1 _ _ _ hs
  have hRA := (C.2.2.2.2.2.2.2.1.2 _ _ ht0).2
  refine va_newaK C.1 C.2.1 (C.2.2.2.2.1 _ harr) rfl hd rfl hv.1 hv.2 hB hc hsl (h := ad (o + 1 + j)) (by rw [hH.1, hb _ hlt]) fun H1 cA' e1 z1 o1 hAr hNm => ?_
  have hcA : cA' = cA (o + 1 + j) := by
    have h2 : s.vm.findClass ("[" ++ (newarray.typeOf atype).toString) = some (cA (o + 1 + j)) := by
      cases atype <;> exact hRA
    exact Option.some.inj (hNm.symm.trans h2)
  subst hcA
  refine k p l e s m args below meth c D cA tys ad H1 locs ls C ⟨by rw [z1, hb _ hlt]; omega, hH.2.1.kept (o1 _ ?_), fun x hx => ?_⟩ ⟨Nat.le_trans hS.1 (by rw [z1, hb _ hlt, hH.1]; omega), fun q h1 h2 => (o1 q ?_).trans (hS.2.1 q h1 h2), hS.2.2⟩ hl
  · show ad o < ad (o + 1 + j)
    rw [hb _ hlt, hb o (by omega)]; omega
  · rcases Nat.lt_or_ge x j with hx1 | hx1
    · refine (hH.2.2 x hx1).kept (o1 _ ?_)
      show ad (o + 1 + x) < ad (o + 1 + j)
      rw [hb _ hlt, hb _ (by omega)]; omega
    · rw [show x = j by omega, ha0]
      show H1[ad (o + 1 + j)]? = some (vp_cell _ _)
      rw [hz]
      exact e1
  · have := hS.1
    rw [hb _ hlt, ← hH.1]
    exact Nat.lt_of_lt_of_le h1 this
theorem kt_make {M' : MI} {i1 i2 dp' cx n' sl' : Nat} {fx : List Value} (hd1 : decode M.2.1 pc = .ok (.new i1, 3)) (hd2 : decode M.2.1 (pc + 3) = .ok (.dup, 1)) (hd3 : decode M.2.1 (pc + 3 + 1) = .ok (.invokespecial i2, 3)) (hcl : Cond.classLink M.1.cls i1 (cR cx) ∈ rt_tbl) (hin : Cond.instantiable (cR cx) (nfl cx) ∈ rt_tbl) (hini : Cond.initialized (cR cx) ∈ rt_tbl) (hcx : cx < 9) (hfx : ∀ x, x < nfl cx → defaultValue (cTy cx x) = vp_V fx x) (hfx2 : ∀ ad : Nat → Nat, fx.map (tr ad) = fx) (hlk : (M.1.cls, i2, M'.1) ∈ nsC) (hM' : M'.1.cls = cR cx ∧ M'.1.name = "<init>" ∧ M'.2.2.1 = 1 ∧ M'.2.2.2 = none ∧ M'.1.cls ≠ "java/lang/invoke/MethodHandle" ∧ M'.1.cls ≠ "java/lang/invoke/VarHandle" ∧ (parseMethodDescriptor M'.1.desc).map (fun d => d.parameters.length) = some 0) (hco : Cond.code M'.1 M'.2.1 M'.2.2.1 M'.2.2.2 ∈ rt_tbl) (hinst : Cond.instanceMethod M'.1 ∈ rt_tbl) (hc : KCon M' dp' (o + 1 + j) cx n' sl' fx) (hdp : dp' < dp) (hlt : o + 1 + j + n' < 99) (hc1 : j + 1 + n' ≤ n) (hs1 : sj + nfl cx + sl' ≤ sl) (hw : (stw st).ble 6 = true) (k : KT M dp o ci n sl (j + 1 + n') (sj + nfl cx + sl') fs (pc + 7) (.ref (o + 1 + j) :: st)) : KT M dp o ci n sl j sj fs pc st := by
  intro p l e s m args below meth c D cA tys ad H locs ls C hH hS hl
  have hb : ∀ x, x < 100 → ad x = ad 0 + x := C.2.2.2.2.2.2.2.2.2.2.1
  have hKn := C.2.2.2.2.2.2.2.1.1 cx _ (vwCl_at hcx)
  refine W.newcK C.1 C.2.1 C.2.2.2.1 (C.2.2.2.2.1 _ hcl) (C.2.2.2.2.1 _ hin) (C.2.2.2.2.1 _ hini) rfl hd1 (show j + 1 ≤ n by omega) (show sj + nfl cx ≤ sl by omega) hKn.2.1 (h := ad (o + 1 + j)) (by rw [hH.1, hb (o + 1 + j) (by omega)]) fun H1 kC hkC e1 z1 o1 => ?_
  have hB : va_at D vwCl (ad (o + 1 + j), .inr (cx, fx.map (tr ad))) H1 := by
    rw [hfx2 ad]
    exact ⟨_, vwCl_at hcx, (u_born (cTy cx) C.2.2.2.2.1 (in_tbl hcx) hKn hkC e1 (cTy_ok hcx)).to hfx⟩
  have hS1 : va_S (fun q => ad o ≤ q) s.heap H1 locs := ⟨Nat.le_trans hS.1 (by rw [z1, hb _ (by omega), hH.1]; omega), fun q h1 h2 => (o1 q (by have := hS.1; rw [hb _ (by omega), ← hH.1]; exact Nat.lt_of_lt_of_le h1 this)).trans (hS.2.1 q h1 h2), hS.2.2⟩
  have hz1 : H1.size = ad 0 + (o + 1 + j + 1 + 0) := by rw [z1, hb _ (by omega)]; omega
  have hpre : KH D cA ad (o + 1 + j) cx 0 fx H1 := ⟨hz1, hB, fun x hx => absurd hx (Nat.not_lt_zero _)⟩
  refine lv_dup (va := .ref (ad (o + 1 + j))) C.1 C.2.1 hd2 rfl ?_
  have hrun := va_runIN (As := []) (b := ad (o + 1 + j)) (rest := .ref (ad (o + 1 + j)) :: st.map (tr ad)) (H := H1) (locs := locs) (cells := j + 1) (slots := sj + nfl cx) (g := F0 m (pc + 3 + 1) ls (.ref (ad (o + 1 + j)) :: .ref (ad (o + 1 + j)) :: st.map (tr ad))) (R := ktR dp n sl) (below := below) (meth := meth) (e := e) (own := M.1.cls) (host := "RingWaters") (index := i2) (bytes := M'.2.1) (maxL := M'.2.2.1) (n := 0) (Ts := rt_tbl) ⟨C.1, C.2.1, C.2.2.1, C.2.2.2.1, C.2.2.2.2.1⟩ (hc l D cA tys ad C.2.2.2.2.2.2.2.2.1 C.2.2.2.2.2.2.2.2.2.2.1) ⟨va_cnB 0 C.2.2.2.2.1 (tbl_in (rt_ws_in hco) (fun _ h => h)) (by show _ = Cond.code M'.1 M'.2.1 M'.2.2.1 none :: _; rw [← hM'.2.2.2.1]; rfl) rfl rfl (C.2.2.2.2.2.2.2.2.2.2.2 _ hlk) (C.2.2.2.2.1 _ (by rw [hM'.1]; exact hini)) ⟨hM'.2.2.2.2.1, hM'.2.2.2.2.2.1, hM'.2.2.2.2.2.2⟩ ⟨show dp' + 1 ≤ dp by omega, by rw [hM'.2.2.1]; show 8 + (1 + 11) + 34 * dp' ≤ 34 * dp; omega⟩, hM'.2.1, C.2.2.2.2.1 _ hinst⟩ ⟨KPc.blind, fun U hU hW => ⟨rfl, by rw [hU]; exact hpre, va_K.moved hW.alike C.2.2.2.2.2.2.2.1, C.2.2.2.2.2.2.2.2.2.2.2.warm hW⟩⟩ rfl rfl hl.1 rfl (lv_room (by
      have h1 := stw_le ad st
      have h2 := Nat.le_of_ble_eq_true hw
      show ((Value.ref (ad (o + 1 + j)) :: st.map (tr ad)).map fun v => v.category).sum ≤ 8
      rw [List.map_cons, List.sum_cons]
      show 1 + _ ≤ 8
      omega)) hd3 ⟨show j + 1 + n' ≤ n from hc1, show sj + nfl cx + sl' ≤ sl from hs1⟩
  intro T hT X
  obtain ⟨v, st₀, t, T', L, h0, X', hL, e1', e2', ⟨⟨hv, hF⟩, hz, hk⟩, stp⟩ := hrun T hT X
  cases hv
  rw [h0] at hz hk
  have hod : ad o = ad 0 + o := hb o (by omega)
  have hoj : ad (o + 1 + j) = ad 0 + (o + 1 + j) := hb _ (by omega)
  have hlo : ∀ q : Nat, q < ad (o + 1 + j) → T'.heap[q]? = H[q]? := fun q hq => by
    rw [e1', hk q (by rw [hz1]; omega) (by omega)]
    exact o1 q hq
  have hnew : KH D cA ad o ci (j + 1 + n') fs T'.heap := by
    refine ⟨by rw [e1', hF.1]; omega, hH.2.1.kept (hlo _ (by show ad o < _; omega)), fun x hx => ?_⟩
    rcases Nat.lt_or_ge x j with hx1 | hx1
    · refine (hH.2.2 x hx1).kept (hlo _ ?_)
      show ad (o + 1 + x) < _
      rw [hb _ (by omega)]; omega
    · have := hF.2 (x - j) (by omega)
      rw [show o + 1 + j + (x - j) = o + 1 + x by omega] at this
      rw [e1']; exact this
  have hSn : va_S (fun q => ad o ≤ q) s.heap T'.heap (locs ++ L) := by
    refine ⟨Nat.le_trans hS1.1 (by rw [e1']; exact hz), fun q h1 h2 => ?_, fun q hq => ?_⟩
    · rw [hlo q (by omega)]
      exact hS.2.1 q h1 h2
    · rcases List.mem_append.mp hq with h | h
      · exact hS.2.2 q h
      · have := hL q h
        show ad o ≤ q.base
        omega
  obtain ⟨t2, a1, b1⟩ := k p l e s m args below meth c D cA tys ad T'.heap (locs ++ L) ls C hnew hSn hl T' rfl X'
  exact ⟨t2, stp t2 a1, b1⟩
end KTR
