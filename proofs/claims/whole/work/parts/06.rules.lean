theorem lg_len_tr (ad : Nat → Nat) : ∀ as : List Value, (∀ v ∈ as, (∃ x, v = .int x) ∨ (∃ x, v = .long x) ∨ ∃ x, v = .ref x) → (lg_sl (as.map (tr ad))).length = (lg_sl (as.map (tr id))).length
  | [], _ => rfl
  | a :: r, ha => by
    have ih := lg_len_tr ad r (fun v hv => ha v (List.mem_cons_of_mem _ hv))
    unfold lg_sl at ih ⊢
    rcases ha a List.mem_cons_self with ⟨x, rfl⟩ | ⟨x, rfl⟩ | ⟨x, rfl⟩ <;> (simp only [List.map_cons, List.flatMap_cons, List.length_append, ih]; rfl)
theorem Con.of {M : MI} {dp : Nat} {as : List Value} {h : PH} {Q : Option Value → PH → Prop} (hy : plainName M.1.cls = true) (ha : ∀ v ∈ as, (∃ x, v = .int x) ∨ (∃ x, v = .long x) ∨ ∃ x, v = .ref x) (hlen : (lg_sl (as.map (tr id))).length ≤ M.2.2.1) (hle : (lvE as M.2.2.1).length = M.2.2.1) (k : RT M dp 0 (lvE as M.2.2.1) [] h Q) : Con M dp as h Q := by
  intro l D cA tys A ad hT
  refine Met.ofW (cc := M.2.1) (maxL := M.2.2.1) (ret := M.2.2.2) hy rfl ?_
  intro p e s m args below meth c s₁ B hml hv
  obtain ⟨rfl, hP, hD, hK, hE⟩ := hv
  have hts := atoms_spec (ws := rt_ws M) B.pre
  have hlen2 : (lg_sl (as.map (tr ad))).length ≤ M.2.2.1 := by
    rw [lg_len_tr ad as ha]; exact hlen
  have hl := lv_entry (as.map (tr ad)) (n := M.2.2.1) hlen2
  rw [lg_entry_eq]
  refine k p l e s m _ below meth c D cA tys A ad s.heap [] _ ⟨B.exec, B.bytes, hml, findClass_of_methodNamed B.named, fun w hw => hts w (List.mem_cons_of_mem _ hw), B.returns, B.notSynchronized, hK, hT, hE⟩ hP hD va_S.rf ⟨⟨hl.1, hl.2.1, fun q hq => ?_⟩, hle⟩
  obtain ⟨i, v⟩ := q
  obtain ⟨u, hu, rfl⟩ := mem_lpairs.mp hq
  have := lvE_get ad as M.2.2.1 0 ha i u hu
  rw [Nat.zero_add] at this
  exact hl.2.2 _ this
section RTR
variable {M : MI} {dp pc : Nat} {lv : List (Option Value)} {st : List Value} {h : PH} {Q : Option Value → PH → Prop}
theorem RT.sub {lv' : List (Option Value)} (hs : lsub lv lv') (k : RT M dp pc lv' st h Q) : RT M dp pc lv st h Q := by
  intro p l e s m args below meth c D cA tys A ad H locs ls C hP hD hS hl
  refine k p l e s m args below meth c D cA tys A ad H locs ls C hP hD hS ⟨⟨hl.1.1, hl.1.2.1, fun q hq => ?_⟩, (lsub_get hs).1 ▸ hl.2⟩
  obtain ⟨i, v⟩ := q
  obtain ⟨u, hu, rfl⟩ := mem_lpairs.mp hq
  exact hl.get ((lsub_get hs).2 i u hu)
theorem RT.imp {Q' : Option Value → PH → Prop} (k : RT M dp pc lv st h Q') (hq : ∀ v h', Q' v h' → Q v h') : RT M dp pc lv st h Q := by
  intro p l e s m args below meth c D cA tys A ad H locs ls C hP hD hS hl T hT X
  obtain ⟨t, a, o, b1, b2, ⟨⟨v, h', e1, e2, e3, e4⟩, b4⟩, b5⟩ := k p l e s m args below meth c D cA tys A ad H locs ls C hP hD hS hl T hT X
  exact ⟨t, a, o, b1, b2, ⟨⟨v, h', e1, ⟨hq v h' e2.1, e2.2⟩, e3, e4⟩, b4⟩, b5⟩

theorem r_iconst {n : Int} {v : Int32} (hd : decode M.2.1 pc = .ok (.iconst n, 1)) (hv : Int32.ofInt n = v) (k : RT M dp (pc + 1) lv (.int v :: st) h Q) : RT M dp pc lv st h Q := by
  intro p l e s m args below meth c D cA tys A ad H locs ls C hP hD hS hl
  exact lv_iconst C.1 C.2.1 hd hv (k p l e s m args below meth c D cA tys A ad H locs ls C hP hD hS hl)
theorem r_bipush {n : Int} {v : Int32} (hd : decode M.2.1 pc = .ok (.bipush n, 2)) (hv : (Int8.ofInt n).toInt32 = v) (k : RT M dp (pc + 2) lv (.int v :: st) h Q) : RT M dp pc lv st h Q := by
  intro p l e s m args below meth c D cA tys A ad H locs ls C hP hD hS hl
  exact lv_bipush C.1 C.2.1 hd hv (k p l e s m args below meth c D cA tys A ad H locs ls C hP hD hS hl)
theorem r_sipush {n : Int} {v : Int32} (hd : decode M.2.1 pc = .ok (.sipush n, 3)) (hv : (Int16.ofInt n).toInt32 = v) (k : RT M dp (pc + 3) lv (.int v :: st) h Q) : RT M dp pc lv st h Q := by
  intro p l e s m args below meth c D cA tys A ad H locs ls C hP hD hS hl
  exact lv_sipush C.1 C.2.1 hd hv (k p l e s m args below meth c D cA tys A ad H locs ls C hP hD hS hl)
theorem r_lconst {n : Fin 2} {v : Int64} (hd : decode M.2.1 pc = .ok (.lconst n, 1)) (hv : Int64.ofNat (n : Nat) = v) (k : RT M dp (pc + 1) lv (.long v :: st) h Q) : RT M dp pc lv st h Q := by
  intro p l e s m args below meth c D cA tys A ad H locs ls C hP hD hS hl
  exact lv_lconst C.1 C.2.1 hd hv (k p l e s m args below meth c D cA tys A ad H locs ls C hP hD hS hl)
theorem r_ldc {i : Nat} {v : Int32} (hd : decode M.2.1 pc = .ok (.ldc i, 2)) (hv : Cond.constant M.1.cls i v ∈ rt_tbl) (k : RT M dp (pc + 2) lv (.int v :: st) h Q) : RT M dp pc lv st h Q := by
  intro p l e s m args below meth c D cA tys A ad H locs ls C hP hD hS hl
  exact lv_ldc C.1 C.2.1 C.2.2.2.1 (C.2.2.2.2.1 _ hv) hd (k p l e s m args below meth c D cA tys A ad H locs ls C hP hD hS hl)
theorem r_ldcw {i : Nat} {v : Int32} (hd : decode M.2.1 pc = .ok (.ldc_w i, 3)) (hv : Cond.constant M.1.cls i v ∈ rt_tbl) (k : RT M dp (pc + 3) lv (.int v :: st) h Q) : RT M dp pc lv st h Q := by
  intro p l e s m args below meth c D cA tys A ad H locs ls C hP hD hS hl
  exact lv_ldcw C.1 C.2.1 C.2.2.2.1 (C.2.2.2.2.1 _ hv) hd (k p l e s m args below meth c D cA tys A ad H locs ls C hP hD hS hl)
theorem r_ldc2 {i : Nat} {v : Int64} (hd : decode M.2.1 pc = .ok (.ldc2_w i, 3)) (hv : Cond.constantLong M.1.cls i v ∈ rt_tbl) (k : RT M dp (pc + 3) lv (.long v :: st) h Q) : RT M dp pc lv st h Q := by
  intro p l e s m args below meth c D cA tys A ad H locs ls C hP hD hS hl
  exact lv_ldc2 C.1 C.2.1 C.2.2.2.1 (C.2.2.2.2.1 _ hv) hd (k p l e s m args below meth c D cA tys A ad H locs ls C hP hD hS hl)
theorem r_iadd {x y : Int32} (hd : decode M.2.1 pc = .ok (.iadd, 1)) (k : RT M dp (pc + 1) lv (.int (x + y) :: st) h Q) : RT M dp pc lv (.int y :: .int x :: st) h Q := by
  intro p l e s m args below meth c D cA tys A ad H locs ls C hP hD hS hl
  exact lv_iadd C.1 C.2.1 hd (k p l e s m args below meth c D cA tys A ad H locs ls C hP hD hS hl)
theorem r_isub {x y : Int32} (hd : decode M.2.1 pc = .ok (.isub, 1)) (k : RT M dp (pc + 1) lv (.int (x - y) :: st) h Q) : RT M dp pc lv (.int y :: .int x :: st) h Q := by
  intro p l e s m args below meth c D cA tys A ad H locs ls C hP hD hS hl
  exact lv_isub C.1 C.2.1 hd (k p l e s m args below meth c D cA tys A ad H locs ls C hP hD hS hl)
theorem r_imul {x y : Int32} (hd : decode M.2.1 pc = .ok (.imul, 1)) (k : RT M dp (pc + 1) lv (.int (x * y) :: st) h Q) : RT M dp pc lv (.int y :: .int x :: st) h Q := by
  intro p l e s m args below meth c D cA tys A ad H locs ls C hP hD hS hl
  exact lv_imul C.1 C.2.1 hd (k p l e s m args below meth c D cA tys A ad H locs ls C hP hD hS hl)
theorem r_iand {x y : Int32} (hd : decode M.2.1 pc = .ok (.iand, 1)) (k : RT M dp (pc + 1) lv (.int (x &&& y) :: st) h Q) : RT M dp pc lv (.int y :: .int x :: st) h Q := by
  intro p l e s m args below meth c D cA tys A ad H locs ls C hP hD hS hl
  exact lv_iand C.1 C.2.1 hd (k p l e s m args below meth c D cA tys A ad H locs ls C hP hD hS hl)
theorem r_ior {x y : Int32} (hd : decode M.2.1 pc = .ok (.ior, 1)) (k : RT M dp (pc + 1) lv (.int (x ||| y) :: st) h Q) : RT M dp pc lv (.int y :: .int x :: st) h Q := by
  intro p l e s m args below meth c D cA tys A ad H locs ls C hP hD hS hl
  exact lv_ior C.1 C.2.1 hd (k p l e s m args below meth c D cA tys A ad H locs ls C hP hD hS hl)
theorem r_ixor {x y : Int32} (hd : decode M.2.1 pc = .ok (.ixor, 1)) (k : RT M dp (pc + 1) lv (.int (x ^^^ y) :: st) h Q) : RT M dp pc lv (.int y :: .int x :: st) h Q := by
  intro p l e s m args below meth c D cA tys A ad H locs ls C hP hD hS hl
  exact lv_ixor C.1 C.2.1 hd (k p l e s m args below meth c D cA tys A ad H locs ls C hP hD hS hl)
theorem r_ladd {x y : Int64} (hd : decode M.2.1 pc = .ok (.ladd, 1)) (k : RT M dp (pc + 1) lv (.long (x + y) :: st) h Q) : RT M dp pc lv (.long y :: .long x :: st) h Q := by
  intro p l e s m args below meth c D cA tys A ad H locs ls C hP hD hS hl
  exact lv_ladd C.1 C.2.1 hd (k p l e s m args below meth c D cA tys A ad H locs ls C hP hD hS hl)
theorem r_lsub {x y : Int64} (hd : decode M.2.1 pc = .ok (.lsub, 1)) (k : RT M dp (pc + 1) lv (.long (x - y) :: st) h Q) : RT M dp pc lv (.long y :: .long x :: st) h Q := by
  intro p l e s m args below meth c D cA tys A ad H locs ls C hP hD hS hl
  exact lv_lsub C.1 C.2.1 hd (k p l e s m args below meth c D cA tys A ad H locs ls C hP hD hS hl)
theorem r_lmul {x y : Int64} (hd : decode M.2.1 pc = .ok (.lmul, 1)) (k : RT M dp (pc + 1) lv (.long (x * y) :: st) h Q) : RT M dp pc lv (.long y :: .long x :: st) h Q := by
  intro p l e s m args below meth c D cA tys A ad H locs ls C hP hD hS hl
  exact lv_lmul C.1 C.2.1 hd (k p l e s m args below meth c D cA tys A ad H locs ls C hP hD hS hl)
theorem r_lor {x y : Int64} (hd : decode M.2.1 pc = .ok (.lor, 1)) (k : RT M dp (pc + 1) lv (.long (x ||| y) :: st) h Q) : RT M dp pc lv (.long y :: .long x :: st) h Q := by
  intro p l e s m args below meth c D cA tys A ad H locs ls C hP hD hS hl
  exact lv_lor C.1 C.2.1 hd (k p l e s m args below meth c D cA tys A ad H locs ls C hP hD hS hl)
theorem r_idiv {x y : Int32} (hd : decode M.2.1 pc = .ok (.idiv, 1)) (hy : ¬ y = 0) (k : RT M dp (pc + 1) lv (.int (x / y) :: st) h Q) : RT M dp pc lv (.int y :: .int x :: st) h Q := by
  intro p l e s m args below meth c D cA tys A ad H locs ls C hP hD hS hl
  exact lv_idiv C.1 C.2.1 hd hy (k p l e s m args below meth c D cA tys A ad H locs ls C hP hD hS hl)
theorem r_ldiv {x y : Int64} (hd : decode M.2.1 pc = .ok (.ldiv, 1)) (hy : ¬ y = 0) (k : RT M dp (pc + 1) lv (.long (x / y) :: st) h Q) : RT M dp pc lv (.long y :: .long x :: st) h Q := by
  intro p l e s m args below meth c D cA tys A ad H locs ls C hP hD hS hl
  exact lv_ldiv C.1 C.2.1 hd hy (k p l e s m args below meth c D cA tys A ad H locs ls C hP hD hS hl)
theorem r_ishl {x y : Int32} (hd : decode M.2.1 pc = .ok (.ishl, 1)) (k : RT M dp (pc + 1) lv (.int (x <<< (y &&& 31)) :: st) h Q) : RT M dp pc lv (.int y :: .int x :: st) h Q := by
  intro p l e s m args below meth c D cA tys A ad H locs ls C hP hD hS hl
  exact lv_ishl C.1 C.2.1 hd (k p l e s m args below meth c D cA tys A ad H locs ls C hP hD hS hl)
theorem r_ishr {x y : Int32} (hd : decode M.2.1 pc = .ok (.ishr, 1)) (k : RT M dp (pc + 1) lv (.int (x >>> (y &&& 31)) :: st) h Q) : RT M dp pc lv (.int y :: .int x :: st) h Q := by
  intro p l e s m args below meth c D cA tys A ad H locs ls C hP hD hS hl
  exact lv_ishr C.1 C.2.1 hd (k p l e s m args below meth c D cA tys A ad H locs ls C hP hD hS hl)
theorem r_iushr {x y : Int32} (hd : decode M.2.1 pc = .ok (.iushr, 1)) (k : RT M dp (pc + 1) lv (.int (x.toUInt32 >>> (y.toUInt32 &&& Int32.toUInt32 31)).toInt32 :: st) h Q) : RT M dp pc lv (.int y :: .int x :: st) h Q := by
  intro p l e s m args below meth c D cA tys A ad H locs ls C hP hD hS hl
  exact lv_iushr C.1 C.2.1 hd rfl (k p l e s m args below meth c D cA tys A ad H locs ls C hP hD hS hl)
theorem r_lshl {x : Int64} {y : Int32} (hd : decode M.2.1 pc = .ok (.lshl, 1)) (k : RT M dp (pc + 1) lv (.long (x <<< (y.toInt64 &&& 63)) :: st) h Q) : RT M dp pc lv (.int y :: .long x :: st) h Q := by
  intro p l e s m args below meth c D cA tys A ad H locs ls C hP hD hS hl
  exact lv_lshl C.1 C.2.1 hd rfl (k p l e s m args below meth c D cA tys A ad H locs ls C hP hD hS hl)
theorem r_ineg {x : Int32} (hd : decode M.2.1 pc = .ok (.ineg, 1)) (k : RT M dp (pc + 1) lv (.int (-x) :: st) h Q) : RT M dp pc lv (.int x :: st) h Q := by
  intro p l e s m args below meth c D cA tys A ad H locs ls C hP hD hS hl
  exact lv_ineg C.1 C.2.1 hd (k p l e s m args below meth c D cA tys A ad H locs ls C hP hD hS hl)
theorem r_lneg {x : Int64} (hd : decode M.2.1 pc = .ok (.lneg, 1)) (k : RT M dp (pc + 1) lv (.long (-x) :: st) h Q) : RT M dp pc lv (.long x :: st) h Q := by
  intro p l e s m args below meth c D cA tys A ad H locs ls C hP hD hS hl
  exact lv_lneg C.1 C.2.1 hd (k p l e s m args below meth c D cA tys A ad H locs ls C hP hD hS hl)
theorem r_i2l {x : Int32} (hd : decode M.2.1 pc = .ok (.i2l, 1)) (k : RT M dp (pc + 1) lv (.long x.toInt64 :: st) h Q) : RT M dp pc lv (.int x :: st) h Q := by
  intro p l e s m args below meth c D cA tys A ad H locs ls C hP hD hS hl
  exact lv_i2l C.1 C.2.1 hd rfl (k p l e s m args below meth c D cA tys A ad H locs ls C hP hD hS hl)
theorem r_l2i {x : Int64} (hd : decode M.2.1 pc = .ok (.l2i, 1)) (k : RT M dp (pc + 1) lv (.int x.toInt32 :: st) h Q) : RT M dp pc lv (.long x :: st) h Q := by
  intro p l e s m args below meth c D cA tys A ad H locs ls C hP hD hS hl
  exact lv_l2i C.1 C.2.1 hd rfl (k p l e s m args below meth c D cA tys A ad H locs ls C hP hD hS hl)
theorem r_i2b {x : Int32} (hd : decode M.2.1 pc = .ok (.i2b, 1)) (k : RT M dp (pc + 1) lv (.int x.toInt8.toInt32 :: st) h Q) : RT M dp pc lv (.int x :: st) h Q := by
  intro p l e s m args below meth c D cA tys A ad H locs ls C hP hD hS hl
  exact lv_i2b C.1 C.2.1 hd rfl (k p l e s m args below meth c D cA tys A ad H locs ls C hP hD hS hl)
theorem r_lcmp {x y : Int64} (hd : decode M.2.1 pc = .ok (.lcmp, 1)) (k : RT M dp (pc + 1) lv (.int (lg_cmp x y) :: st) h Q) : RT M dp pc lv (.long y :: .long x :: st) h Q := by
  intro p l e s m args below meth c D cA tys A ad H locs ls C hP hD hS hl
  exact W.lcmp C.1 C.2.1 hd (k p l e s m args below meth c D cA tys A ad H locs ls C hP hD hS hl)
theorem r_dupi {x : Int32} (hd : decode M.2.1 pc = .ok (.dup, 1)) (k : RT M dp (pc + 1) lv (.int x :: .int x :: st) h Q) : RT M dp pc lv (.int x :: st) h Q := by
  intro p l e s m args below meth c D cA tys A ad H locs ls C hP hD hS hl
  exact lv_dup C.1 C.2.1 hd rfl (k p l e s m args below meth c D cA tys A ad H locs ls C hP hD hS hl)
theorem r_dupr {x : Nat} (hd : decode M.2.1 pc = .ok (.dup, 1)) (k : RT M dp (pc + 1) lv (.ref x :: .ref x :: st) h Q) : RT M dp pc lv (.ref x :: st) h Q := by
  intro p l e s m args below meth c D cA tys A ad H locs ls C hP hD hS hl
  exact lv_dup C.1 C.2.1 hd rfl (k p l e s m args below meth c D cA tys A ad H locs ls C hP hD hS hl)
theorem r_dup2ir {x : Int32} {y : Nat} (hd : decode M.2.1 pc = .ok (.dup2, 1)) (k : RT M dp (pc + 1) lv (.int x :: .ref y :: .int x :: .ref y :: st) h Q) : RT M dp pc lv (.int x :: .ref y :: st) h Q := by
  intro p l e s m args below meth c D cA tys A ad H locs ls C hP hD hS hl
  exact lv_dup2_11 C.1 C.2.1 hd rfl rfl (k p l e s m args below meth c D cA tys A ad H locs ls C hP hD hS hl)
theorem r_popi {x : Int32} (hd : decode M.2.1 pc = .ok (.pop, 1)) (k : RT M dp (pc + 1) lv st h Q) : RT M dp pc lv (.int x :: st) h Q := by
  intro p l e s m args below meth c D cA tys A ad H locs ls C hP hD hS hl
  exact lv_pop C.1 C.2.1 hd rfl (k p l e s m args below meth c D cA tys A ad H locs ls C hP hD hS hl)
theorem r_iload_0 {r : List (Option Value)} {x : Int32} (hd : decode M.2.1 pc = .ok (.iload_n 0, 1)) (k : RT M dp (pc + 1) (some (.int x) :: r) (.int x :: st) h Q) : RT M dp pc (some (.int x) :: r) st h Q := by
  intro p l e s m args below meth c D cA tys A ad H locs ls C hP hD hS hl
  exact lv_iload_n C.1 C.2.1 hd rfl (hl.get (i := 0) rfl) (k p l e s m args below meth c D cA tys A ad H locs ls C hP hD hS hl)
theorem r_istore_0 {r : List (Option Value)} {b : Option Value} {x : Int32} (hd : decode M.2.1 pc = .ok (.istore_n 0, 1)) (k : RT M dp (pc + 1) (some (.int x) :: r) st h Q) (hn : nlg (b :: r) 0 = true := by rfl) : RT M dp pc (b :: r) (.int x :: st) h Q := by
  intro p l e s m args below meth c D cA tys A ad H locs ls C hP hD hS hl
  exact lv_istore_n C.1 C.2.1 hd rfl hl.1 (by have := hl.2; simp at this; omega) rfl (fun ls hl2 => k p l e s m args below meth c D cA tys A ad H locs ls C hP hD hS (LH.to1 (i := 0) (v := .int x) hl.2 (by have := hl.2; simp at this; omega) hn hl2))
theorem r_lload_0 {r : List (Option Value)} {x : Int64} (hd : decode M.2.1 pc = .ok (.lload_n 0, 1)) (k : RT M dp (pc + 1) (some (.long x) :: r) (.long x :: st) h Q) : RT M dp pc (some (.long x) :: r) st h Q := by
  intro p l e s m args below meth c D cA tys A ad H locs ls C hP hD hS hl
  exact lv_lload_n C.1 C.2.1 hd rfl (hl.get (i := 0) rfl) (k p l e s m args below meth c D cA tys A ad H locs ls C hP hD hS hl)
theorem r_lstore_0 {r : List (Option Value)} {b b2 : Option Value} {x : Int64} (hd : decode M.2.1 pc = .ok (.lstore_n 0, 1)) (k : RT M dp (pc + 1) (some (.long x) :: none :: r) st h Q) (hn : nlg (b :: b2 :: r) 0 = true := by rfl) : RT M dp pc (b :: b2 :: r) (.long x :: st) h Q := by
  intro p l e s m args below meth c D cA tys A ad H locs ls C hP hD hS hl
  exact lv_lstore_n C.1 C.2.1 hd rfl hl.1 (by have := hl.2; simp at this; omega) rfl (fun ls hl2 => k p l e s m args below meth c D cA tys A ad H locs ls C hP hD hS (LH.to2 (i := 0) (v := .long x) hl.2 (by have := hl.2; simp at this; omega) hn hl2))
theorem r_aload_0 {r : List (Option Value)} {x : Nat} (hd : decode M.2.1 pc = .ok (.aload_n 0, 1)) (k : RT M dp (pc + 1) (some (.ref x) :: r) (.ref x :: st) h Q) : RT M dp pc (some (.ref x) :: r) st h Q := by
  intro p l e s m args below meth c D cA tys A ad H locs ls C hP hD hS hl
  exact lv_aload_n C.1 C.2.1 hd rfl (hl.get (i := 0) rfl) (k p l e s m args below meth c D cA tys A ad H locs ls C hP hD hS hl)
theorem r_astore_0 {r : List (Option Value)} {b : Option Value} {x : Nat} (hd : decode M.2.1 pc = .ok (.astore_n 0, 1)) (k : RT M dp (pc + 1) (some (.ref x) :: r) st h Q) (hn : nlg (b :: r) 0 = true := by rfl) : RT M dp pc (b :: r) (.ref x :: st) h Q := by
  intro p l e s m args below meth c D cA tys A ad H locs ls C hP hD hS hl
  exact lv_astore_n C.1 C.2.1 hd rfl hl.1 (by have := hl.2; simp at this; omega) rfl (fun ls hl2 => k p l e s m args below meth c D cA tys A ad H locs ls C hP hD hS (LH.to1 (i := 0) (v := .ref x) hl.2 (by have := hl.2; simp at this; omega) hn hl2))
theorem r_iinc_0 {r : List (Option Value)} {x v : Int32} {n : Int} (hd : decode M.2.1 pc = .ok (.iinc 0 n, 3)) (hv : Int32.ofInt n = v) (k : RT M dp (pc + 3) (some (.int (x + v)) :: r) st h Q) (hn : nlg (some (.int x) :: r) 0 = true := by rfl) : RT M dp pc (some (.int x) :: r) st h Q := by
  subst hv
  intro p l e s m args below meth c D cA tys A ad H locs ls C hP hD hS hl
  have hg : (0, Value.int x) ∈ lpairs ad (some (.int x) :: r) := mem_lpairs.mpr ⟨.int x, rfl, rfl⟩
  obtain ⟨kk, hk⟩ := List.getElem?_of_mem hg
  exact lv_iinc C.1 C.2.1 hd hl.1 hk rfl (by have := hl.2; simp at this; omega) rfl (fun ls hl2 => k p l e s m args below meth c D cA tys A ad H locs ls C hP hD hS (LH.to1 (i := 0) (v := .int (x + Int32.ofInt n)) hl.2 (by have := hl.2; simp at this; omega) hn hl2))
theorem r_iload_1 {a0 : Option Value} {r : List (Option Value)} {x : Int32} (hd : decode M.2.1 pc = .ok (.iload_n 1, 1)) (k : RT M dp (pc + 1) (a0 :: some (.int x) :: r) (.int x :: st) h Q) : RT M dp pc (a0 :: some (.int x) :: r) st h Q := by
  intro p l e s m args below meth c D cA tys A ad H locs ls C hP hD hS hl
  exact lv_iload_n C.1 C.2.1 hd rfl (hl.get (i := 1) rfl) (k p l e s m args below meth c D cA tys A ad H locs ls C hP hD hS hl)
theorem r_istore_1 {a0 : Option Value} {r : List (Option Value)} {b : Option Value} {x : Int32} (hd : decode M.2.1 pc = .ok (.istore_n 1, 1)) (k : RT M dp (pc + 1) (a0 :: some (.int x) :: r) st h Q) (hn : nlg (a0 :: b :: r) 1 = true := by rfl) : RT M dp pc (a0 :: b :: r) (.int x :: st) h Q := by
  intro p l e s m args below meth c D cA tys A ad H locs ls C hP hD hS hl
  exact lv_istore_n C.1 C.2.1 hd rfl hl.1 (by have := hl.2; simp at this; omega) rfl (fun ls hl2 => k p l e s m args below meth c D cA tys A ad H locs ls C hP hD hS (LH.to1 (i := 1) (v := .int x) hl.2 (by have := hl.2; simp at this; omega) hn hl2))
theorem r_lload_1 {a0 : Option Value} {r : List (Option Value)} {x : Int64} (hd : decode M.2.1 pc = .ok (.lload_n 1, 1)) (k : RT M dp (pc + 1) (a0 :: some (.long x) :: r) (.long x :: st) h Q) : RT M dp pc (a0 :: some (.long x) :: r) st h Q := by
  intro p l e s m args below meth c D cA tys A ad H locs ls C hP hD hS hl
  exact lv_lload_n C.1 C.2.1 hd rfl (hl.get (i := 1) rfl) (k p l e s m args below meth c D cA tys A ad H locs ls C hP hD hS hl)
theorem r_lstore_1 {a0 : Option Value} {r : List (Option Value)} {b b2 : Option Value} {x : Int64} (hd : decode M.2.1 pc = .ok (.lstore_n 1, 1)) (k : RT M dp (pc + 1) (a0 :: some (.long x) :: none :: r) st h Q) (hn : nlg (a0 :: b :: b2 :: r) 1 = true := by rfl) : RT M dp pc (a0 :: b :: b2 :: r) (.long x :: st) h Q := by
  intro p l e s m args below meth c D cA tys A ad H locs ls C hP hD hS hl
  exact lv_lstore_n C.1 C.2.1 hd rfl hl.1 (by have := hl.2; simp at this; omega) rfl (fun ls hl2 => k p l e s m args below meth c D cA tys A ad H locs ls C hP hD hS (LH.to2 (i := 1) (v := .long x) hl.2 (by have := hl.2; simp at this; omega) hn hl2))
theorem r_aload_1 {a0 : Option Value} {r : List (Option Value)} {x : Nat} (hd : decode M.2.1 pc = .ok (.aload_n 1, 1)) (k : RT M dp (pc + 1) (a0 :: some (.ref x) :: r) (.ref x :: st) h Q) : RT M dp pc (a0 :: some (.ref x) :: r) st h Q := by
  intro p l e s m args below meth c D cA tys A ad H locs ls C hP hD hS hl
  exact lv_aload_n C.1 C.2.1 hd rfl (hl.get (i := 1) rfl) (k p l e s m args below meth c D cA tys A ad H locs ls C hP hD hS hl)
theorem r_astore_1 {a0 : Option Value} {r : List (Option Value)} {b : Option Value} {x : Nat} (hd : decode M.2.1 pc = .ok (.astore_n 1, 1)) (k : RT M dp (pc + 1) (a0 :: some (.ref x) :: r) st h Q) (hn : nlg (a0 :: b :: r) 1 = true := by rfl) : RT M dp pc (a0 :: b :: r) (.ref x :: st) h Q := by
  intro p l e s m args below meth c D cA tys A ad H locs ls C hP hD hS hl
  exact lv_astore_n C.1 C.2.1 hd rfl hl.1 (by have := hl.2; simp at this; omega) rfl (fun ls hl2 => k p l e s m args below meth c D cA tys A ad H locs ls C hP hD hS (LH.to1 (i := 1) (v := .ref x) hl.2 (by have := hl.2; simp at this; omega) hn hl2))
theorem r_iinc_1 {a0 : Option Value} {r : List (Option Value)} {x v : Int32} {n : Int} (hd : decode M.2.1 pc = .ok (.iinc 1 n, 3)) (hv : Int32.ofInt n = v) (k : RT M dp (pc + 3) (a0 :: some (.int (x + v)) :: r) st h Q) (hn : nlg (a0 :: some (.int x) :: r) 1 = true := by rfl) : RT M dp pc (a0 :: some (.int x) :: r) st h Q := by
  subst hv
  intro p l e s m args below meth c D cA tys A ad H locs ls C hP hD hS hl
  have hg : (1, Value.int x) ∈ lpairs ad (a0 :: some (.int x) :: r) := mem_lpairs.mpr ⟨.int x, rfl, rfl⟩
  obtain ⟨kk, hk⟩ := List.getElem?_of_mem hg
  exact lv_iinc C.1 C.2.1 hd hl.1 hk rfl (by have := hl.2; simp at this; omega) rfl (fun ls hl2 => k p l e s m args below meth c D cA tys A ad H locs ls C hP hD hS (LH.to1 (i := 1) (v := .int (x + Int32.ofInt n)) hl.2 (by have := hl.2; simp at this; omega) hn hl2))
theorem r_iload_2 {a0 a1 : Option Value} {r : List (Option Value)} {x : Int32} (hd : decode M.2.1 pc = .ok (.iload_n 2, 1)) (k : RT M dp (pc + 1) (a0 :: a1 :: some (.int x) :: r) (.int x :: st) h Q) : RT M dp pc (a0 :: a1 :: some (.int x) :: r) st h Q := by
  intro p l e s m args below meth c D cA tys A ad H locs ls C hP hD hS hl
  exact lv_iload_n C.1 C.2.1 hd rfl (hl.get (i := 2) rfl) (k p l e s m args below meth c D cA tys A ad H locs ls C hP hD hS hl)
theorem r_istore_2 {a0 a1 : Option Value} {r : List (Option Value)} {b : Option Value} {x : Int32} (hd : decode M.2.1 pc = .ok (.istore_n 2, 1)) (k : RT M dp (pc + 1) (a0 :: a1 :: some (.int x) :: r) st h Q) (hn : nlg (a0 :: a1 :: b :: r) 2 = true := by rfl) : RT M dp pc (a0 :: a1 :: b :: r) (.int x :: st) h Q := by
  intro p l e s m args below meth c D cA tys A ad H locs ls C hP hD hS hl
  exact lv_istore_n C.1 C.2.1 hd rfl hl.1 (by have := hl.2; simp at this; omega) rfl (fun ls hl2 => k p l e s m args below meth c D cA tys A ad H locs ls C hP hD hS (LH.to1 (i := 2) (v := .int x) hl.2 (by have := hl.2; simp at this; omega) hn hl2))
theorem r_lload_2 {a0 a1 : Option Value} {r : List (Option Value)} {x : Int64} (hd : decode M.2.1 pc = .ok (.lload_n 2, 1)) (k : RT M dp (pc + 1) (a0 :: a1 :: some (.long x) :: r) (.long x :: st) h Q) : RT M dp pc (a0 :: a1 :: some (.long x) :: r) st h Q := by
  intro p l e s m args below meth c D cA tys A ad H locs ls C hP hD hS hl
  exact lv_lload_n C.1 C.2.1 hd rfl (hl.get (i := 2) rfl) (k p l e s m args below meth c D cA tys A ad H locs ls C hP hD hS hl)
theorem r_lstore_2 {a0 a1 : Option Value} {r : List (Option Value)} {b b2 : Option Value} {x : Int64} (hd : decode M.2.1 pc = .ok (.lstore_n 2, 1)) (k : RT M dp (pc + 1) (a0 :: a1 :: some (.long x) :: none :: r) st h Q) (hn : nlg (a0 :: a1 :: b :: b2 :: r) 2 = true := by rfl) : RT M dp pc (a0 :: a1 :: b :: b2 :: r) (.long x :: st) h Q := by
  intro p l e s m args below meth c D cA tys A ad H locs ls C hP hD hS hl
  exact lv_lstore_n C.1 C.2.1 hd rfl hl.1 (by have := hl.2; simp at this; omega) rfl (fun ls hl2 => k p l e s m args below meth c D cA tys A ad H locs ls C hP hD hS (LH.to2 (i := 2) (v := .long x) hl.2 (by have := hl.2; simp at this; omega) hn hl2))
theorem r_aload_2 {a0 a1 : Option Value} {r : List (Option Value)} {x : Nat} (hd : decode M.2.1 pc = .ok (.aload_n 2, 1)) (k : RT M dp (pc + 1) (a0 :: a1 :: some (.ref x) :: r) (.ref x :: st) h Q) : RT M dp pc (a0 :: a1 :: some (.ref x) :: r) st h Q := by
  intro p l e s m args below meth c D cA tys A ad H locs ls C hP hD hS hl
  exact lv_aload_n C.1 C.2.1 hd rfl (hl.get (i := 2) rfl) (k p l e s m args below meth c D cA tys A ad H locs ls C hP hD hS hl)
theorem r_astore_2 {a0 a1 : Option Value} {r : List (Option Value)} {b : Option Value} {x : Nat} (hd : decode M.2.1 pc = .ok (.astore_n 2, 1)) (k : RT M dp (pc + 1) (a0 :: a1 :: some (.ref x) :: r) st h Q) (hn : nlg (a0 :: a1 :: b :: r) 2 = true := by rfl) : RT M dp pc (a0 :: a1 :: b :: r) (.ref x :: st) h Q := by
  intro p l e s m args below meth c D cA tys A ad H locs ls C hP hD hS hl
  exact lv_astore_n C.1 C.2.1 hd rfl hl.1 (by have := hl.2; simp at this; omega) rfl (fun ls hl2 => k p l e s m args below meth c D cA tys A ad H locs ls C hP hD hS (LH.to1 (i := 2) (v := .ref x) hl.2 (by have := hl.2; simp at this; omega) hn hl2))
theorem r_iinc_2 {a0 a1 : Option Value} {r : List (Option Value)} {x v : Int32} {n : Int} (hd : decode M.2.1 pc = .ok (.iinc 2 n, 3)) (hv : Int32.ofInt n = v) (k : RT M dp (pc + 3) (a0 :: a1 :: some (.int (x + v)) :: r) st h Q) (hn : nlg (a0 :: a1 :: some (.int x) :: r) 2 = true := by rfl) : RT M dp pc (a0 :: a1 :: some (.int x) :: r) st h Q := by
  subst hv
  intro p l e s m args below meth c D cA tys A ad H locs ls C hP hD hS hl
  have hg : (2, Value.int x) ∈ lpairs ad (a0 :: a1 :: some (.int x) :: r) := mem_lpairs.mpr ⟨.int x, rfl, rfl⟩
  obtain ⟨kk, hk⟩ := List.getElem?_of_mem hg
  exact lv_iinc C.1 C.2.1 hd hl.1 hk rfl (by have := hl.2; simp at this; omega) rfl (fun ls hl2 => k p l e s m args below meth c D cA tys A ad H locs ls C hP hD hS (LH.to1 (i := 2) (v := .int (x + Int32.ofInt n)) hl.2 (by have := hl.2; simp at this; omega) hn hl2))
theorem r_iload_3 {a0 a1 a2 : Option Value} {r : List (Option Value)} {x : Int32} (hd : decode M.2.1 pc = .ok (.iload_n 3, 1)) (k : RT M dp (pc + 1) (a0 :: a1 :: a2 :: some (.int x) :: r) (.int x :: st) h Q) : RT M dp pc (a0 :: a1 :: a2 :: some (.int x) :: r) st h Q := by
  intro p l e s m args below meth c D cA tys A ad H locs ls C hP hD hS hl
  exact lv_iload_n C.1 C.2.1 hd rfl (hl.get (i := 3) rfl) (k p l e s m args below meth c D cA tys A ad H locs ls C hP hD hS hl)
theorem r_istore_3 {a0 a1 a2 : Option Value} {r : List (Option Value)} {b : Option Value} {x : Int32} (hd : decode M.2.1 pc = .ok (.istore_n 3, 1)) (k : RT M dp (pc + 1) (a0 :: a1 :: a2 :: some (.int x) :: r) st h Q) (hn : nlg (a0 :: a1 :: a2 :: b :: r) 3 = true := by rfl) : RT M dp pc (a0 :: a1 :: a2 :: b :: r) (.int x :: st) h Q := by
  intro p l e s m args below meth c D cA tys A ad H locs ls C hP hD hS hl
  exact lv_istore_n C.1 C.2.1 hd rfl hl.1 (by have := hl.2; simp at this; omega) rfl (fun ls hl2 => k p l e s m args below meth c D cA tys A ad H locs ls C hP hD hS (LH.to1 (i := 3) (v := .int x) hl.2 (by have := hl.2; simp at this; omega) hn hl2))
theorem r_lload_3 {a0 a1 a2 : Option Value} {r : List (Option Value)} {x : Int64} (hd : decode M.2.1 pc = .ok (.lload_n 3, 1)) (k : RT M dp (pc + 1) (a0 :: a1 :: a2 :: some (.long x) :: r) (.long x :: st) h Q) : RT M dp pc (a0 :: a1 :: a2 :: some (.long x) :: r) st h Q := by
  intro p l e s m args below meth c D cA tys A ad H locs ls C hP hD hS hl
  exact lv_lload_n C.1 C.2.1 hd rfl (hl.get (i := 3) rfl) (k p l e s m args below meth c D cA tys A ad H locs ls C hP hD hS hl)
theorem r_lstore_3 {a0 a1 a2 : Option Value} {r : List (Option Value)} {b b2 : Option Value} {x : Int64} (hd : decode M.2.1 pc = .ok (.lstore_n 3, 1)) (k : RT M dp (pc + 1) (a0 :: a1 :: a2 :: some (.long x) :: none :: r) st h Q) (hn : nlg (a0 :: a1 :: a2 :: b :: b2 :: r) 3 = true := by rfl) : RT M dp pc (a0 :: a1 :: a2 :: b :: b2 :: r) (.long x :: st) h Q := by
  intro p l e s m args below meth c D cA tys A ad H locs ls C hP hD hS hl
  exact lv_lstore_n C.1 C.2.1 hd rfl hl.1 (by have := hl.2; simp at this; omega) rfl (fun ls hl2 => k p l e s m args below meth c D cA tys A ad H locs ls C hP hD hS (LH.to2 (i := 3) (v := .long x) hl.2 (by have := hl.2; simp at this; omega) hn hl2))
theorem r_aload_3 {a0 a1 a2 : Option Value} {r : List (Option Value)} {x : Nat} (hd : decode M.2.1 pc = .ok (.aload_n 3, 1)) (k : RT M dp (pc + 1) (a0 :: a1 :: a2 :: some (.ref x) :: r) (.ref x :: st) h Q) : RT M dp pc (a0 :: a1 :: a2 :: some (.ref x) :: r) st h Q := by
  intro p l e s m args below meth c D cA tys A ad H locs ls C hP hD hS hl
  exact lv_aload_n C.1 C.2.1 hd rfl (hl.get (i := 3) rfl) (k p l e s m args below meth c D cA tys A ad H locs ls C hP hD hS hl)
theorem r_astore_3 {a0 a1 a2 : Option Value} {r : List (Option Value)} {b : Option Value} {x : Nat} (hd : decode M.2.1 pc = .ok (.astore_n 3, 1)) (k : RT M dp (pc + 1) (a0 :: a1 :: a2 :: some (.ref x) :: r) st h Q) (hn : nlg (a0 :: a1 :: a2 :: b :: r) 3 = true := by rfl) : RT M dp pc (a0 :: a1 :: a2 :: b :: r) (.ref x :: st) h Q := by
  intro p l e s m args below meth c D cA tys A ad H locs ls C hP hD hS hl
  exact lv_astore_n C.1 C.2.1 hd rfl hl.1 (by have := hl.2; simp at this; omega) rfl (fun ls hl2 => k p l e s m args below meth c D cA tys A ad H locs ls C hP hD hS (LH.to1 (i := 3) (v := .ref x) hl.2 (by have := hl.2; simp at this; omega) hn hl2))
theorem r_iinc_3 {a0 a1 a2 : Option Value} {r : List (Option Value)} {x v : Int32} {n : Int} (hd : decode M.2.1 pc = .ok (.iinc 3 n, 3)) (hv : Int32.ofInt n = v) (k : RT M dp (pc + 3) (a0 :: a1 :: a2 :: some (.int (x + v)) :: r) st h Q) (hn : nlg (a0 :: a1 :: a2 :: some (.int x) :: r) 3 = true := by rfl) : RT M dp pc (a0 :: a1 :: a2 :: some (.int x) :: r) st h Q := by
  subst hv
  intro p l e s m args below meth c D cA tys A ad H locs ls C hP hD hS hl
  have hg : (3, Value.int x) ∈ lpairs ad (a0 :: a1 :: a2 :: some (.int x) :: r) := mem_lpairs.mpr ⟨.int x, rfl, rfl⟩
  obtain ⟨kk, hk⟩ := List.getElem?_of_mem hg
  exact lv_iinc C.1 C.2.1 hd hl.1 hk rfl (by have := hl.2; simp at this; omega) rfl (fun ls hl2 => k p l e s m args below meth c D cA tys A ad H locs ls C hP hD hS (LH.to1 (i := 3) (v := .int (x + Int32.ofInt n)) hl.2 (by have := hl.2; simp at this; omega) hn hl2))
theorem r_iload_4 {a0 a1 a2 a3 : Option Value} {r : List (Option Value)} {x : Int32} (hd : decode M.2.1 pc = .ok (.iload 4, 2)) (k : RT M dp (pc + 2) (a0 :: a1 :: a2 :: a3 :: some (.int x) :: r) (.int x :: st) h Q) : RT M dp pc (a0 :: a1 :: a2 :: a3 :: some (.int x) :: r) st h Q := by
  intro p l e s m args below meth c D cA tys A ad H locs ls C hP hD hS hl
  exact lv_iload C.1 C.2.1 hd (hl.get (i := 4) rfl) (k p l e s m args below meth c D cA tys A ad H locs ls C hP hD hS hl)
theorem r_istore_4 {a0 a1 a2 a3 : Option Value} {r : List (Option Value)} {b : Option Value} {x : Int32} (hd : decode M.2.1 pc = .ok (.istore 4, 2)) (k : RT M dp (pc + 2) (a0 :: a1 :: a2 :: a3 :: some (.int x) :: r) st h Q) (hn : nlg (a0 :: a1 :: a2 :: a3 :: b :: r) 4 = true := by rfl) : RT M dp pc (a0 :: a1 :: a2 :: a3 :: b :: r) (.int x :: st) h Q := by
  intro p l e s m args below meth c D cA tys A ad H locs ls C hP hD hS hl
  exact lv_istore C.1 C.2.1 hd hl.1 (by have := hl.2; simp at this; omega) rfl (fun ls hl2 => k p l e s m args below meth c D cA tys A ad H locs ls C hP hD hS (LH.to1 (i := 4) (v := .int x) hl.2 (by have := hl.2; simp at this; omega) hn hl2))
theorem r_lload_4 {a0 a1 a2 a3 : Option Value} {r : List (Option Value)} {x : Int64} (hd : decode M.2.1 pc = .ok (.lload 4, 2)) (k : RT M dp (pc + 2) (a0 :: a1 :: a2 :: a3 :: some (.long x) :: r) (.long x :: st) h Q) : RT M dp pc (a0 :: a1 :: a2 :: a3 :: some (.long x) :: r) st h Q := by
  intro p l e s m args below meth c D cA tys A ad H locs ls C hP hD hS hl
  exact lv_lload C.1 C.2.1 hd (hl.get (i := 4) rfl) (k p l e s m args below meth c D cA tys A ad H locs ls C hP hD hS hl)
theorem r_lstore_4 {a0 a1 a2 a3 : Option Value} {r : List (Option Value)} {b b2 : Option Value} {x : Int64} (hd : decode M.2.1 pc = .ok (.lstore 4, 2)) (k : RT M dp (pc + 2) (a0 :: a1 :: a2 :: a3 :: some (.long x) :: none :: r) st h Q) (hn : nlg (a0 :: a1 :: a2 :: a3 :: b :: b2 :: r) 4 = true := by rfl) : RT M dp pc (a0 :: a1 :: a2 :: a3 :: b :: b2 :: r) (.long x :: st) h Q := by
  intro p l e s m args below meth c D cA tys A ad H locs ls C hP hD hS hl
  exact lv_lstore C.1 C.2.1 hd hl.1 (by have := hl.2; simp at this; omega) rfl (fun ls hl2 => k p l e s m args below meth c D cA tys A ad H locs ls C hP hD hS (LH.to2 (i := 4) (v := .long x) hl.2 (by have := hl.2; simp at this; omega) hn hl2))
theorem r_aload_4 {a0 a1 a2 a3 : Option Value} {r : List (Option Value)} {x : Nat} (hd : decode M.2.1 pc = .ok (.aload 4, 2)) (k : RT M dp (pc + 2) (a0 :: a1 :: a2 :: a3 :: some (.ref x) :: r) (.ref x :: st) h Q) : RT M dp pc (a0 :: a1 :: a2 :: a3 :: some (.ref x) :: r) st h Q := by
  intro p l e s m args below meth c D cA tys A ad H locs ls C hP hD hS hl
  exact lv_aload C.1 C.2.1 hd (hl.get (i := 4) rfl) (k p l e s m args below meth c D cA tys A ad H locs ls C hP hD hS hl)
theorem r_astore_4 {a0 a1 a2 a3 : Option Value} {r : List (Option Value)} {b : Option Value} {x : Nat} (hd : decode M.2.1 pc = .ok (.astore 4, 2)) (k : RT M dp (pc + 2) (a0 :: a1 :: a2 :: a3 :: some (.ref x) :: r) st h Q) (hn : nlg (a0 :: a1 :: a2 :: a3 :: b :: r) 4 = true := by rfl) : RT M dp pc (a0 :: a1 :: a2 :: a3 :: b :: r) (.ref x :: st) h Q := by
  intro p l e s m args below meth c D cA tys A ad H locs ls C hP hD hS hl
  exact lv_astore C.1 C.2.1 hd hl.1 (by have := hl.2; simp at this; omega) rfl (fun ls hl2 => k p l e s m args below meth c D cA tys A ad H locs ls C hP hD hS (LH.to1 (i := 4) (v := .ref x) hl.2 (by have := hl.2; simp at this; omega) hn hl2))
theorem r_iinc_4 {a0 a1 a2 a3 : Option Value} {r : List (Option Value)} {x v : Int32} {n : Int} (hd : decode M.2.1 pc = .ok (.iinc 4 n, 3)) (hv : Int32.ofInt n = v) (k : RT M dp (pc + 3) (a0 :: a1 :: a2 :: a3 :: some (.int (x + v)) :: r) st h Q) (hn : nlg (a0 :: a1 :: a2 :: a3 :: some (.int x) :: r) 4 = true := by rfl) : RT M dp pc (a0 :: a1 :: a2 :: a3 :: some (.int x) :: r) st h Q := by
  subst hv
  intro p l e s m args below meth c D cA tys A ad H locs ls C hP hD hS hl
  have hg : (4, Value.int x) ∈ lpairs ad (a0 :: a1 :: a2 :: a3 :: some (.int x) :: r) := mem_lpairs.mpr ⟨.int x, rfl, rfl⟩
  obtain ⟨kk, hk⟩ := List.getElem?_of_mem hg
  exact lv_iinc C.1 C.2.1 hd hl.1 hk rfl (by have := hl.2; simp at this; omega) rfl (fun ls hl2 => k p l e s m args below meth c D cA tys A ad H locs ls C hP hD hS (LH.to1 (i := 4) (v := .int (x + Int32.ofInt n)) hl.2 (by have := hl.2; simp at this; omega) hn hl2))
theorem r_iload_5 {a0 a1 a2 a3 a4 : Option Value} {r : List (Option Value)} {x : Int32} (hd : decode M.2.1 pc = .ok (.iload 5, 2)) (k : RT M dp (pc + 2) (a0 :: a1 :: a2 :: a3 :: a4 :: some (.int x) :: r) (.int x :: st) h Q) : RT M dp pc (a0 :: a1 :: a2 :: a3 :: a4 :: some (.int x) :: r) st h Q := by
  intro p l e s m args below meth c D cA tys A ad H locs ls C hP hD hS hl
  exact lv_iload C.1 C.2.1 hd (hl.get (i := 5) rfl) (k p l e s m args below meth c D cA tys A ad H locs ls C hP hD hS hl)
theorem r_istore_5 {a0 a1 a2 a3 a4 : Option Value} {r : List (Option Value)} {b : Option Value} {x : Int32} (hd : decode M.2.1 pc = .ok (.istore 5, 2)) (k : RT M dp (pc + 2) (a0 :: a1 :: a2 :: a3 :: a4 :: some (.int x) :: r) st h Q) (hn : nlg (a0 :: a1 :: a2 :: a3 :: a4 :: b :: r) 5 = true := by rfl) : RT M dp pc (a0 :: a1 :: a2 :: a3 :: a4 :: b :: r) (.int x :: st) h Q := by
  intro p l e s m args below meth c D cA tys A ad H locs ls C hP hD hS hl
  exact lv_istore C.1 C.2.1 hd hl.1 (by have := hl.2; simp at this; omega) rfl (fun ls hl2 => k p l e s m args below meth c D cA tys A ad H locs ls C hP hD hS (LH.to1 (i := 5) (v := .int x) hl.2 (by have := hl.2; simp at this; omega) hn hl2))
theorem r_lload_5 {a0 a1 a2 a3 a4 : Option Value} {r : List (Option Value)} {x : Int64} (hd : decode M.2.1 pc = .ok (.lload 5, 2)) (k : RT M dp (pc + 2) (a0 :: a1 :: a2 :: a3 :: a4 :: some (.long x) :: r) (.long x :: st) h Q) : RT M dp pc (a0 :: a1 :: a2 :: a3 :: a4 :: some (.long x) :: r) st h Q := by
  intro p l e s m args below meth c D cA tys A ad H locs ls C hP hD hS hl
  exact lv_lload C.1 C.2.1 hd (hl.get (i := 5) rfl) (k p l e s m args below meth c D cA tys A ad H locs ls C hP hD hS hl)
theorem r_lstore_5 {a0 a1 a2 a3 a4 : Option Value} {r : List (Option Value)} {b b2 : Option Value} {x : Int64} (hd : decode M.2.1 pc = .ok (.lstore 5, 2)) (k : RT M dp (pc + 2) (a0 :: a1 :: a2 :: a3 :: a4 :: some (.long x) :: none :: r) st h Q) (hn : nlg (a0 :: a1 :: a2 :: a3 :: a4 :: b :: b2 :: r) 5 = true := by rfl) : RT M dp pc (a0 :: a1 :: a2 :: a3 :: a4 :: b :: b2 :: r) (.long x :: st) h Q := by
  intro p l e s m args below meth c D cA tys A ad H locs ls C hP hD hS hl
  exact lv_lstore C.1 C.2.1 hd hl.1 (by have := hl.2; simp at this; omega) rfl (fun ls hl2 => k p l e s m args below meth c D cA tys A ad H locs ls C hP hD hS (LH.to2 (i := 5) (v := .long x) hl.2 (by have := hl.2; simp at this; omega) hn hl2))
theorem r_aload_5 {a0 a1 a2 a3 a4 : Option Value} {r : List (Option Value)} {x : Nat} (hd : decode M.2.1 pc = .ok (.aload 5, 2)) (k : RT M dp (pc + 2) (a0 :: a1 :: a2 :: a3 :: a4 :: some (.ref x) :: r) (.ref x :: st) h Q) : RT M dp pc (a0 :: a1 :: a2 :: a3 :: a4 :: some (.ref x) :: r) st h Q := by
  intro p l e s m args below meth c D cA tys A ad H locs ls C hP hD hS hl
  exact lv_aload C.1 C.2.1 hd (hl.get (i := 5) rfl) (k p l e s m args below meth c D cA tys A ad H locs ls C hP hD hS hl)
theorem r_astore_5 {a0 a1 a2 a3 a4 : Option Value} {r : List (Option Value)} {b : Option Value} {x : Nat} (hd : decode M.2.1 pc = .ok (.astore 5, 2)) (k : RT M dp (pc + 2) (a0 :: a1 :: a2 :: a3 :: a4 :: some (.ref x) :: r) st h Q) (hn : nlg (a0 :: a1 :: a2 :: a3 :: a4 :: b :: r) 5 = true := by rfl) : RT M dp pc (a0 :: a1 :: a2 :: a3 :: a4 :: b :: r) (.ref x :: st) h Q := by
  intro p l e s m args below meth c D cA tys A ad H locs ls C hP hD hS hl
  exact lv_astore C.1 C.2.1 hd hl.1 (by have := hl.2; simp at this; omega) rfl (fun ls hl2 => k p l e s m args below meth c D cA tys A ad H locs ls C hP hD hS (LH.to1 (i := 5) (v := .ref x) hl.2 (by have := hl.2; simp at this; omega) hn hl2))
theorem r_iinc_5 {a0 a1 a2 a3 a4 : Option Value} {r : List (Option Value)} {x v : Int32} {n : Int} (hd : decode M.2.1 pc = .ok (.iinc 5 n, 3)) (hv : Int32.ofInt n = v) (k : RT M dp (pc + 3) (a0 :: a1 :: a2 :: a3 :: a4 :: some (.int (x + v)) :: r) st h Q) (hn : nlg (a0 :: a1 :: a2 :: a3 :: a4 :: some (.int x) :: r) 5 = true := by rfl) : RT M dp pc (a0 :: a1 :: a2 :: a3 :: a4 :: some (.int x) :: r) st h Q := by
  subst hv
  intro p l e s m args below meth c D cA tys A ad H locs ls C hP hD hS hl
  have hg : (5, Value.int x) ∈ lpairs ad (a0 :: a1 :: a2 :: a3 :: a4 :: some (.int x) :: r) := mem_lpairs.mpr ⟨.int x, rfl, rfl⟩
  obtain ⟨kk, hk⟩ := List.getElem?_of_mem hg
  exact lv_iinc C.1 C.2.1 hd hl.1 hk rfl (by have := hl.2; simp at this; omega) rfl (fun ls hl2 => k p l e s m args below meth c D cA tys A ad H locs ls C hP hD hS (LH.to1 (i := 5) (v := .int (x + Int32.ofInt n)) hl.2 (by have := hl.2; simp at this; omega) hn hl2))
theorem r_iload_6 {a0 a1 a2 a3 a4 a5 : Option Value} {r : List (Option Value)} {x : Int32} (hd : decode M.2.1 pc = .ok (.iload 6, 2)) (k : RT M dp (pc + 2) (a0 :: a1 :: a2 :: a3 :: a4 :: a5 :: some (.int x) :: r) (.int x :: st) h Q) : RT M dp pc (a0 :: a1 :: a2 :: a3 :: a4 :: a5 :: some (.int x) :: r) st h Q := by
  intro p l e s m args below meth c D cA tys A ad H locs ls C hP hD hS hl
  exact lv_iload C.1 C.2.1 hd (hl.get (i := 6) rfl) (k p l e s m args below meth c D cA tys A ad H locs ls C hP hD hS hl)
theorem r_istore_6 {a0 a1 a2 a3 a4 a5 : Option Value} {r : List (Option Value)} {b : Option Value} {x : Int32} (hd : decode M.2.1 pc = .ok (.istore 6, 2)) (k : RT M dp (pc + 2) (a0 :: a1 :: a2 :: a3 :: a4 :: a5 :: some (.int x) :: r) st h Q) (hn : nlg (a0 :: a1 :: a2 :: a3 :: a4 :: a5 :: b :: r) 6 = true := by rfl) : RT M dp pc (a0 :: a1 :: a2 :: a3 :: a4 :: a5 :: b :: r) (.int x :: st) h Q := by
  intro p l e s m args below meth c D cA tys A ad H locs ls C hP hD hS hl
  exact lv_istore C.1 C.2.1 hd hl.1 (by have := hl.2; simp at this; omega) rfl (fun ls hl2 => k p l e s m args below meth c D cA tys A ad H locs ls C hP hD hS (LH.to1 (i := 6) (v := .int x) hl.2 (by have := hl.2; simp at this; omega) hn hl2))
theorem r_lload_6 {a0 a1 a2 a3 a4 a5 : Option Value} {r : List (Option Value)} {x : Int64} (hd : decode M.2.1 pc = .ok (.lload 6, 2)) (k : RT M dp (pc + 2) (a0 :: a1 :: a2 :: a3 :: a4 :: a5 :: some (.long x) :: r) (.long x :: st) h Q) : RT M dp pc (a0 :: a1 :: a2 :: a3 :: a4 :: a5 :: some (.long x) :: r) st h Q := by
  intro p l e s m args below meth c D cA tys A ad H locs ls C hP hD hS hl
  exact lv_lload C.1 C.2.1 hd (hl.get (i := 6) rfl) (k p l e s m args below meth c D cA tys A ad H locs ls C hP hD hS hl)
theorem r_lstore_6 {a0 a1 a2 a3 a4 a5 : Option Value} {r : List (Option Value)} {b b2 : Option Value} {x : Int64} (hd : decode M.2.1 pc = .ok (.lstore 6, 2)) (k : RT M dp (pc + 2) (a0 :: a1 :: a2 :: a3 :: a4 :: a5 :: some (.long x) :: none :: r) st h Q) (hn : nlg (a0 :: a1 :: a2 :: a3 :: a4 :: a5 :: b :: b2 :: r) 6 = true := by rfl) : RT M dp pc (a0 :: a1 :: a2 :: a3 :: a4 :: a5 :: b :: b2 :: r) (.long x :: st) h Q := by
  intro p l e s m args below meth c D cA tys A ad H locs ls C hP hD hS hl
  exact lv_lstore C.1 C.2.1 hd hl.1 (by have := hl.2; simp at this; omega) rfl (fun ls hl2 => k p l e s m args below meth c D cA tys A ad H locs ls C hP hD hS (LH.to2 (i := 6) (v := .long x) hl.2 (by have := hl.2; simp at this; omega) hn hl2))
theorem r_aload_6 {a0 a1 a2 a3 a4 a5 : Option Value} {r : List (Option Value)} {x : Nat} (hd : decode M.2.1 pc = .ok (.aload 6, 2)) (k : RT M dp (pc + 2) (a0 :: a1 :: a2 :: a3 :: a4 :: a5 :: some (.ref x) :: r) (.ref x :: st) h Q) : RT M dp pc (a0 :: a1 :: a2 :: a3 :: a4 :: a5 :: some (.ref x) :: r) st h Q := by
  intro p l e s m args below meth c D cA tys A ad H locs ls C hP hD hS hl
  exact lv_aload C.1 C.2.1 hd (hl.get (i := 6) rfl) (k p l e s m args below meth c D cA tys A ad H locs ls C hP hD hS hl)
theorem r_astore_6 {a0 a1 a2 a3 a4 a5 : Option Value} {r : List (Option Value)} {b : Option Value} {x : Nat} (hd : decode M.2.1 pc = .ok (.astore 6, 2)) (k : RT M dp (pc + 2) (a0 :: a1 :: a2 :: a3 :: a4 :: a5 :: some (.ref x) :: r) st h Q) (hn : nlg (a0 :: a1 :: a2 :: a3 :: a4 :: a5 :: b :: r) 6 = true := by rfl) : RT M dp pc (a0 :: a1 :: a2 :: a3 :: a4 :: a5 :: b :: r) (.ref x :: st) h Q := by
  intro p l e s m args below meth c D cA tys A ad H locs ls C hP hD hS hl
  exact lv_astore C.1 C.2.1 hd hl.1 (by have := hl.2; simp at this; omega) rfl (fun ls hl2 => k p l e s m args below meth c D cA tys A ad H locs ls C hP hD hS (LH.to1 (i := 6) (v := .ref x) hl.2 (by have := hl.2; simp at this; omega) hn hl2))
theorem r_iinc_6 {a0 a1 a2 a3 a4 a5 : Option Value} {r : List (Option Value)} {x v : Int32} {n : Int} (hd : decode M.2.1 pc = .ok (.iinc 6 n, 3)) (hv : Int32.ofInt n = v) (k : RT M dp (pc + 3) (a0 :: a1 :: a2 :: a3 :: a4 :: a5 :: some (.int (x + v)) :: r) st h Q) (hn : nlg (a0 :: a1 :: a2 :: a3 :: a4 :: a5 :: some (.int x) :: r) 6 = true := by rfl) : RT M dp pc (a0 :: a1 :: a2 :: a3 :: a4 :: a5 :: some (.int x) :: r) st h Q := by
  subst hv
  intro p l e s m args below meth c D cA tys A ad H locs ls C hP hD hS hl
  have hg : (6, Value.int x) ∈ lpairs ad (a0 :: a1 :: a2 :: a3 :: a4 :: a5 :: some (.int x) :: r) := mem_lpairs.mpr ⟨.int x, rfl, rfl⟩
  obtain ⟨kk, hk⟩ := List.getElem?_of_mem hg
  exact lv_iinc C.1 C.2.1 hd hl.1 hk rfl (by have := hl.2; simp at this; omega) rfl (fun ls hl2 => k p l e s m args below meth c D cA tys A ad H locs ls C hP hD hS (LH.to1 (i := 6) (v := .int (x + Int32.ofInt n)) hl.2 (by have := hl.2; simp at this; omega) hn hl2))
theorem r_iload_7 {a0 a1 a2 a3 a4 a5 a6 : Option Value} {r : List (Option Value)} {x : Int32} (hd : decode M.2.1 pc = .ok (.iload 7, 2)) (k : RT M dp (pc + 2) (a0 :: a1 :: a2 :: a3 :: a4 :: a5 :: a6 :: some (.int x) :: r) (.int x :: st) h Q) : RT M dp pc (a0 :: a1 :: a2 :: a3 :: a4 :: a5 :: a6 :: some (.int x) :: r) st h Q := by
  intro p l e s m args below meth c D cA tys A ad H locs ls C hP hD hS hl
  exact lv_iload C.1 C.2.1 hd (hl.get (i := 7) rfl) (k p l e s m args below meth c D cA tys A ad H locs ls C hP hD hS hl)
theorem r_istore_7 {a0 a1 a2 a3 a4 a5 a6 : Option Value} {r : List (Option Value)} {b : Option Value} {x : Int32} (hd : decode M.2.1 pc = .ok (.istore 7, 2)) (k : RT M dp (pc + 2) (a0 :: a1 :: a2 :: a3 :: a4 :: a5 :: a6 :: some (.int x) :: r) st h Q) (hn : nlg (a0 :: a1 :: a2 :: a3 :: a4 :: a5 :: a6 :: b :: r) 7 = true := by rfl) : RT M dp pc (a0 :: a1 :: a2 :: a3 :: a4 :: a5 :: a6 :: b :: r) (.int x :: st) h Q := by
  intro p l e s m args below meth c D cA tys A ad H locs ls C hP hD hS hl
  exact lv_istore C.1 C.2.1 hd hl.1 (by have := hl.2; simp at this; omega) rfl (fun ls hl2 => k p l e s m args below meth c D cA tys A ad H locs ls C hP hD hS (LH.to1 (i := 7) (v := .int x) hl.2 (by have := hl.2; simp at this; omega) hn hl2))
theorem r_lload_7 {a0 a1 a2 a3 a4 a5 a6 : Option Value} {r : List (Option Value)} {x : Int64} (hd : decode M.2.1 pc = .ok (.lload 7, 2)) (k : RT M dp (pc + 2) (a0 :: a1 :: a2 :: a3 :: a4 :: a5 :: a6 :: some (.long x) :: r) (.long x :: st) h Q) : RT M dp pc (a0 :: a1 :: a2 :: a3 :: a4 :: a5 :: a6 :: some (.long x) :: r) st h Q := by
  intro p l e s m args below meth c D cA tys A ad H locs ls C hP hD hS hl
  exact lv_lload C.1 C.2.1 hd (hl.get (i := 7) rfl) (k p l e s m args below meth c D cA tys A ad H locs ls C hP hD hS hl)
theorem r_lstore_7 {a0 a1 a2 a3 a4 a5 a6 : Option Value} {r : List (Option Value)} {b b2 : Option Value} {x : Int64} (hd : decode M.2.1 pc = .ok (.lstore 7, 2)) (k : RT M dp (pc + 2) (a0 :: a1 :: a2 :: a3 :: a4 :: a5 :: a6 :: some (.long x) :: none :: r) st h Q) (hn : nlg (a0 :: a1 :: a2 :: a3 :: a4 :: a5 :: a6 :: b :: b2 :: r) 7 = true := by rfl) : RT M dp pc (a0 :: a1 :: a2 :: a3 :: a4 :: a5 :: a6 :: b :: b2 :: r) (.long x :: st) h Q := by
  intro p l e s m args below meth c D cA tys A ad H locs ls C hP hD hS hl
  exact lv_lstore C.1 C.2.1 hd hl.1 (by have := hl.2; simp at this; omega) rfl (fun ls hl2 => k p l e s m args below meth c D cA tys A ad H locs ls C hP hD hS (LH.to2 (i := 7) (v := .long x) hl.2 (by have := hl.2; simp at this; omega) hn hl2))
theorem r_aload_7 {a0 a1 a2 a3 a4 a5 a6 : Option Value} {r : List (Option Value)} {x : Nat} (hd : decode M.2.1 pc = .ok (.aload 7, 2)) (k : RT M dp (pc + 2) (a0 :: a1 :: a2 :: a3 :: a4 :: a5 :: a6 :: some (.ref x) :: r) (.ref x :: st) h Q) : RT M dp pc (a0 :: a1 :: a2 :: a3 :: a4 :: a5 :: a6 :: some (.ref x) :: r) st h Q := by
  intro p l e s m args below meth c D cA tys A ad H locs ls C hP hD hS hl
  exact lv_aload C.1 C.2.1 hd (hl.get (i := 7) rfl) (k p l e s m args below meth c D cA tys A ad H locs ls C hP hD hS hl)
theorem r_astore_7 {a0 a1 a2 a3 a4 a5 a6 : Option Value} {r : List (Option Value)} {b : Option Value} {x : Nat} (hd : decode M.2.1 pc = .ok (.astore 7, 2)) (k : RT M dp (pc + 2) (a0 :: a1 :: a2 :: a3 :: a4 :: a5 :: a6 :: some (.ref x) :: r) st h Q) (hn : nlg (a0 :: a1 :: a2 :: a3 :: a4 :: a5 :: a6 :: b :: r) 7 = true := by rfl) : RT M dp pc (a0 :: a1 :: a2 :: a3 :: a4 :: a5 :: a6 :: b :: r) (.ref x :: st) h Q := by
  intro p l e s m args below meth c D cA tys A ad H locs ls C hP hD hS hl
  exact lv_astore C.1 C.2.1 hd hl.1 (by have := hl.2; simp at this; omega) rfl (fun ls hl2 => k p l e s m args below meth c D cA tys A ad H locs ls C hP hD hS (LH.to1 (i := 7) (v := .ref x) hl.2 (by have := hl.2; simp at this; omega) hn hl2))
theorem r_iinc_7 {a0 a1 a2 a3 a4 a5 a6 : Option Value} {r : List (Option Value)} {x v : Int32} {n : Int} (hd : decode M.2.1 pc = .ok (.iinc 7 n, 3)) (hv : Int32.ofInt n = v) (k : RT M dp (pc + 3) (a0 :: a1 :: a2 :: a3 :: a4 :: a5 :: a6 :: some (.int (x + v)) :: r) st h Q) (hn : nlg (a0 :: a1 :: a2 :: a3 :: a4 :: a5 :: a6 :: some (.int x) :: r) 7 = true := by rfl) : RT M dp pc (a0 :: a1 :: a2 :: a3 :: a4 :: a5 :: a6 :: some (.int x) :: r) st h Q := by
  subst hv
  intro p l e s m args below meth c D cA tys A ad H locs ls C hP hD hS hl
  have hg : (7, Value.int x) ∈ lpairs ad (a0 :: a1 :: a2 :: a3 :: a4 :: a5 :: a6 :: some (.int x) :: r) := mem_lpairs.mpr ⟨.int x, rfl, rfl⟩
  obtain ⟨kk, hk⟩ := List.getElem?_of_mem hg
  exact lv_iinc C.1 C.2.1 hd hl.1 hk rfl (by have := hl.2; simp at this; omega) rfl (fun ls hl2 => k p l e s m args below meth c D cA tys A ad H locs ls C hP hD hS (LH.to1 (i := 7) (v := .int (x + Int32.ofInt n)) hl.2 (by have := hl.2; simp at this; omega) hn hl2))
theorem r_iload_8 {a0 a1 a2 a3 a4 a5 a6 a7 : Option Value} {r : List (Option Value)} {x : Int32} (hd : decode M.2.1 pc = .ok (.iload 8, 2)) (k : RT M dp (pc + 2) (a0 :: a1 :: a2 :: a3 :: a4 :: a5 :: a6 :: a7 :: some (.int x) :: r) (.int x :: st) h Q) : RT M dp pc (a0 :: a1 :: a2 :: a3 :: a4 :: a5 :: a6 :: a7 :: some (.int x) :: r) st h Q := by
  intro p l e s m args below meth c D cA tys A ad H locs ls C hP hD hS hl
  exact lv_iload C.1 C.2.1 hd (hl.get (i := 8) rfl) (k p l e s m args below meth c D cA tys A ad H locs ls C hP hD hS hl)
theorem r_istore_8 {a0 a1 a2 a3 a4 a5 a6 a7 : Option Value} {r : List (Option Value)} {b : Option Value} {x : Int32} (hd : decode M.2.1 pc = .ok (.istore 8, 2)) (k : RT M dp (pc + 2) (a0 :: a1 :: a2 :: a3 :: a4 :: a5 :: a6 :: a7 :: some (.int x) :: r) st h Q) (hn : nlg (a0 :: a1 :: a2 :: a3 :: a4 :: a5 :: a6 :: a7 :: b :: r) 8 = true := by rfl) : RT M dp pc (a0 :: a1 :: a2 :: a3 :: a4 :: a5 :: a6 :: a7 :: b :: r) (.int x :: st) h Q := by
  intro p l e s m args below meth c D cA tys A ad H locs ls C hP hD hS hl
  exact lv_istore C.1 C.2.1 hd hl.1 (by have := hl.2; simp at this; omega) rfl (fun ls hl2 => k p l e s m args below meth c D cA tys A ad H locs ls C hP hD hS (LH.to1 (i := 8) (v := .int x) hl.2 (by have := hl.2; simp at this; omega) hn hl2))
theorem r_lload_8 {a0 a1 a2 a3 a4 a5 a6 a7 : Option Value} {r : List (Option Value)} {x : Int64} (hd : decode M.2.1 pc = .ok (.lload 8, 2)) (k : RT M dp (pc + 2) (a0 :: a1 :: a2 :: a3 :: a4 :: a5 :: a6 :: a7 :: some (.long x) :: r) (.long x :: st) h Q) : RT M dp pc (a0 :: a1 :: a2 :: a3 :: a4 :: a5 :: a6 :: a7 :: some (.long x) :: r) st h Q := by
  intro p l e s m args below meth c D cA tys A ad H locs ls C hP hD hS hl
  exact lv_lload C.1 C.2.1 hd (hl.get (i := 8) rfl) (k p l e s m args below meth c D cA tys A ad H locs ls C hP hD hS hl)
theorem r_lstore_8 {a0 a1 a2 a3 a4 a5 a6 a7 : Option Value} {r : List (Option Value)} {b b2 : Option Value} {x : Int64} (hd : decode M.2.1 pc = .ok (.lstore 8, 2)) (k : RT M dp (pc + 2) (a0 :: a1 :: a2 :: a3 :: a4 :: a5 :: a6 :: a7 :: some (.long x) :: none :: r) st h Q) (hn : nlg (a0 :: a1 :: a2 :: a3 :: a4 :: a5 :: a6 :: a7 :: b :: b2 :: r) 8 = true := by rfl) : RT M dp pc (a0 :: a1 :: a2 :: a3 :: a4 :: a5 :: a6 :: a7 :: b :: b2 :: r) (.long x :: st) h Q := by
  intro p l e s m args below meth c D cA tys A ad H locs ls C hP hD hS hl
  exact lv_lstore C.1 C.2.1 hd hl.1 (by have := hl.2; simp at this; omega) rfl (fun ls hl2 => k p l e s m args below meth c D cA tys A ad H locs ls C hP hD hS (LH.to2 (i := 8) (v := .long x) hl.2 (by have := hl.2; simp at this; omega) hn hl2))
theorem r_aload_8 {a0 a1 a2 a3 a4 a5 a6 a7 : Option Value} {r : List (Option Value)} {x : Nat} (hd : decode M.2.1 pc = .ok (.aload 8, 2)) (k : RT M dp (pc + 2) (a0 :: a1 :: a2 :: a3 :: a4 :: a5 :: a6 :: a7 :: some (.ref x) :: r) (.ref x :: st) h Q) : RT M dp pc (a0 :: a1 :: a2 :: a3 :: a4 :: a5 :: a6 :: a7 :: some (.ref x) :: r) st h Q := by
  intro p l e s m args below meth c D cA tys A ad H locs ls C hP hD hS hl
  exact lv_aload C.1 C.2.1 hd (hl.get (i := 8) rfl) (k p l e s m args below meth c D cA tys A ad H locs ls C hP hD hS hl)
theorem r_astore_8 {a0 a1 a2 a3 a4 a5 a6 a7 : Option Value} {r : List (Option Value)} {b : Option Value} {x : Nat} (hd : decode M.2.1 pc = .ok (.astore 8, 2)) (k : RT M dp (pc + 2) (a0 :: a1 :: a2 :: a3 :: a4 :: a5 :: a6 :: a7 :: some (.ref x) :: r) st h Q) (hn : nlg (a0 :: a1 :: a2 :: a3 :: a4 :: a5 :: a6 :: a7 :: b :: r) 8 = true := by rfl) : RT M dp pc (a0 :: a1 :: a2 :: a3 :: a4 :: a5 :: a6 :: a7 :: b :: r) (.ref x :: st) h Q := by
  intro p l e s m args below meth c D cA tys A ad H locs ls C hP hD hS hl
  exact lv_astore C.1 C.2.1 hd hl.1 (by have := hl.2; simp at this; omega) rfl (fun ls hl2 => k p l e s m args below meth c D cA tys A ad H locs ls C hP hD hS (LH.to1 (i := 8) (v := .ref x) hl.2 (by have := hl.2; simp at this; omega) hn hl2))
theorem r_iinc_8 {a0 a1 a2 a3 a4 a5 a6 a7 : Option Value} {r : List (Option Value)} {x v : Int32} {n : Int} (hd : decode M.2.1 pc = .ok (.iinc 8 n, 3)) (hv : Int32.ofInt n = v) (k : RT M dp (pc + 3) (a0 :: a1 :: a2 :: a3 :: a4 :: a5 :: a6 :: a7 :: some (.int (x + v)) :: r) st h Q) (hn : nlg (a0 :: a1 :: a2 :: a3 :: a4 :: a5 :: a6 :: a7 :: some (.int x) :: r) 8 = true := by rfl) : RT M dp pc (a0 :: a1 :: a2 :: a3 :: a4 :: a5 :: a6 :: a7 :: some (.int x) :: r) st h Q := by
  subst hv
  intro p l e s m args below meth c D cA tys A ad H locs ls C hP hD hS hl
  have hg : (8, Value.int x) ∈ lpairs ad (a0 :: a1 :: a2 :: a3 :: a4 :: a5 :: a6 :: a7 :: some (.int x) :: r) := mem_lpairs.mpr ⟨.int x, rfl, rfl⟩
  obtain ⟨kk, hk⟩ := List.getElem?_of_mem hg
  exact lv_iinc C.1 C.2.1 hd hl.1 hk rfl (by have := hl.2; simp at this; omega) rfl (fun ls hl2 => k p l e s m args below meth c D cA tys A ad H locs ls C hP hD hS (LH.to1 (i := 8) (v := .int (x + Int32.ofInt n)) hl.2 (by have := hl.2; simp at this; omega) hn hl2))
theorem r_iload_9 {a0 a1 a2 a3 a4 a5 a6 a7 a8 : Option Value} {r : List (Option Value)} {x : Int32} (hd : decode M.2.1 pc = .ok (.iload 9, 2)) (k : RT M dp (pc + 2) (a0 :: a1 :: a2 :: a3 :: a4 :: a5 :: a6 :: a7 :: a8 :: some (.int x) :: r) (.int x :: st) h Q) : RT M dp pc (a0 :: a1 :: a2 :: a3 :: a4 :: a5 :: a6 :: a7 :: a8 :: some (.int x) :: r) st h Q := by
  intro p l e s m args below meth c D cA tys A ad H locs ls C hP hD hS hl
  exact lv_iload C.1 C.2.1 hd (hl.get (i := 9) rfl) (k p l e s m args below meth c D cA tys A ad H locs ls C hP hD hS hl)
theorem r_istore_9 {a0 a1 a2 a3 a4 a5 a6 a7 a8 : Option Value} {r : List (Option Value)} {b : Option Value} {x : Int32} (hd : decode M.2.1 pc = .ok (.istore 9, 2)) (k : RT M dp (pc + 2) (a0 :: a1 :: a2 :: a3 :: a4 :: a5 :: a6 :: a7 :: a8 :: some (.int x) :: r) st h Q) (hn : nlg (a0 :: a1 :: a2 :: a3 :: a4 :: a5 :: a6 :: a7 :: a8 :: b :: r) 9 = true := by rfl) : RT M dp pc (a0 :: a1 :: a2 :: a3 :: a4 :: a5 :: a6 :: a7 :: a8 :: b :: r) (.int x :: st) h Q := by
  intro p l e s m args below meth c D cA tys A ad H locs ls C hP hD hS hl
  exact lv_istore C.1 C.2.1 hd hl.1 (by have := hl.2; simp at this; omega) rfl (fun ls hl2 => k p l e s m args below meth c D cA tys A ad H locs ls C hP hD hS (LH.to1 (i := 9) (v := .int x) hl.2 (by have := hl.2; simp at this; omega) hn hl2))
theorem r_lload_9 {a0 a1 a2 a3 a4 a5 a6 a7 a8 : Option Value} {r : List (Option Value)} {x : Int64} (hd : decode M.2.1 pc = .ok (.lload 9, 2)) (k : RT M dp (pc + 2) (a0 :: a1 :: a2 :: a3 :: a4 :: a5 :: a6 :: a7 :: a8 :: some (.long x) :: r) (.long x :: st) h Q) : RT M dp pc (a0 :: a1 :: a2 :: a3 :: a4 :: a5 :: a6 :: a7 :: a8 :: some (.long x) :: r) st h Q := by
  intro p l e s m args below meth c D cA tys A ad H locs ls C hP hD hS hl
  exact lv_lload C.1 C.2.1 hd (hl.get (i := 9) rfl) (k p l e s m args below meth c D cA tys A ad H locs ls C hP hD hS hl)
theorem r_lstore_9 {a0 a1 a2 a3 a4 a5 a6 a7 a8 : Option Value} {r : List (Option Value)} {b b2 : Option Value} {x : Int64} (hd : decode M.2.1 pc = .ok (.lstore 9, 2)) (k : RT M dp (pc + 2) (a0 :: a1 :: a2 :: a3 :: a4 :: a5 :: a6 :: a7 :: a8 :: some (.long x) :: none :: r) st h Q) (hn : nlg (a0 :: a1 :: a2 :: a3 :: a4 :: a5 :: a6 :: a7 :: a8 :: b :: b2 :: r) 9 = true := by rfl) : RT M dp pc (a0 :: a1 :: a2 :: a3 :: a4 :: a5 :: a6 :: a7 :: a8 :: b :: b2 :: r) (.long x :: st) h Q := by
  intro p l e s m args below meth c D cA tys A ad H locs ls C hP hD hS hl
  exact lv_lstore C.1 C.2.1 hd hl.1 (by have := hl.2; simp at this; omega) rfl (fun ls hl2 => k p l e s m args below meth c D cA tys A ad H locs ls C hP hD hS (LH.to2 (i := 9) (v := .long x) hl.2 (by have := hl.2; simp at this; omega) hn hl2))
theorem r_aload_9 {a0 a1 a2 a3 a4 a5 a6 a7 a8 : Option Value} {r : List (Option Value)} {x : Nat} (hd : decode M.2.1 pc = .ok (.aload 9, 2)) (k : RT M dp (pc + 2) (a0 :: a1 :: a2 :: a3 :: a4 :: a5 :: a6 :: a7 :: a8 :: some (.ref x) :: r) (.ref x :: st) h Q) : RT M dp pc (a0 :: a1 :: a2 :: a3 :: a4 :: a5 :: a6 :: a7 :: a8 :: some (.ref x) :: r) st h Q := by
  intro p l e s m args below meth c D cA tys A ad H locs ls C hP hD hS hl
  exact lv_aload C.1 C.2.1 hd (hl.get (i := 9) rfl) (k p l e s m args below meth c D cA tys A ad H locs ls C hP hD hS hl)
theorem r_astore_9 {a0 a1 a2 a3 a4 a5 a6 a7 a8 : Option Value} {r : List (Option Value)} {b : Option Value} {x : Nat} (hd : decode M.2.1 pc = .ok (.astore 9, 2)) (k : RT M dp (pc + 2) (a0 :: a1 :: a2 :: a3 :: a4 :: a5 :: a6 :: a7 :: a8 :: some (.ref x) :: r) st h Q) (hn : nlg (a0 :: a1 :: a2 :: a3 :: a4 :: a5 :: a6 :: a7 :: a8 :: b :: r) 9 = true := by rfl) : RT M dp pc (a0 :: a1 :: a2 :: a3 :: a4 :: a5 :: a6 :: a7 :: a8 :: b :: r) (.ref x :: st) h Q := by
  intro p l e s m args below meth c D cA tys A ad H locs ls C hP hD hS hl
  exact lv_astore C.1 C.2.1 hd hl.1 (by have := hl.2; simp at this; omega) rfl (fun ls hl2 => k p l e s m args below meth c D cA tys A ad H locs ls C hP hD hS (LH.to1 (i := 9) (v := .ref x) hl.2 (by have := hl.2; simp at this; omega) hn hl2))
theorem r_iinc_9 {a0 a1 a2 a3 a4 a5 a6 a7 a8 : Option Value} {r : List (Option Value)} {x v : Int32} {n : Int} (hd : decode M.2.1 pc = .ok (.iinc 9 n, 3)) (hv : Int32.ofInt n = v) (k : RT M dp (pc + 3) (a0 :: a1 :: a2 :: a3 :: a4 :: a5 :: a6 :: a7 :: a8 :: some (.int (x + v)) :: r) st h Q) (hn : nlg (a0 :: a1 :: a2 :: a3 :: a4 :: a5 :: a6 :: a7 :: a8 :: some (.int x) :: r) 9 = true := by rfl) : RT M dp pc (a0 :: a1 :: a2 :: a3 :: a4 :: a5 :: a6 :: a7 :: a8 :: some (.int x) :: r) st h Q := by
  subst hv
  intro p l e s m args below meth c D cA tys A ad H locs ls C hP hD hS hl
  have hg : (9, Value.int x) ∈ lpairs ad (a0 :: a1 :: a2 :: a3 :: a4 :: a5 :: a6 :: a7 :: a8 :: some (.int x) :: r) := mem_lpairs.mpr ⟨.int x, rfl, rfl⟩
  obtain ⟨kk, hk⟩ := List.getElem?_of_mem hg
  exact lv_iinc C.1 C.2.1 hd hl.1 hk rfl (by have := hl.2; simp at this; omega) rfl (fun ls hl2 => k p l e s m args below meth c D cA tys A ad H locs ls C hP hD hS (LH.to1 (i := 9) (v := .int (x + Int32.ofInt n)) hl.2 (by have := hl.2; simp at this; omega) hn hl2))
theorem r_iload_10 {a0 a1 a2 a3 a4 a5 a6 a7 a8 a9 : Option Value} {r : List (Option Value)} {x : Int32} (hd : decode M.2.1 pc = .ok (.iload 10, 2)) (k : RT M dp (pc + 2) (a0 :: a1 :: a2 :: a3 :: a4 :: a5 :: a6 :: a7 :: a8 :: a9 :: some (.int x) :: r) (.int x :: st) h Q) : RT M dp pc (a0 :: a1 :: a2 :: a3 :: a4 :: a5 :: a6 :: a7 :: a8 :: a9 :: some (.int x) :: r) st h Q := by
  intro p l e s m args below meth c D cA tys A ad H locs ls C hP hD hS hl
  exact lv_iload C.1 C.2.1 hd (hl.get (i := 10) rfl) (k p l e s m args below meth c D cA tys A ad H locs ls C hP hD hS hl)
theorem r_istore_10 {a0 a1 a2 a3 a4 a5 a6 a7 a8 a9 : Option Value} {r : List (Option Value)} {b : Option Value} {x : Int32} (hd : decode M.2.1 pc = .ok (.istore 10, 2)) (k : RT M dp (pc + 2) (a0 :: a1 :: a2 :: a3 :: a4 :: a5 :: a6 :: a7 :: a8 :: a9 :: some (.int x) :: r) st h Q) (hn : nlg (a0 :: a1 :: a2 :: a3 :: a4 :: a5 :: a6 :: a7 :: a8 :: a9 :: b :: r) 10 = true := by rfl) : RT M dp pc (a0 :: a1 :: a2 :: a3 :: a4 :: a5 :: a6 :: a7 :: a8 :: a9 :: b :: r) (.int x :: st) h Q := by
  intro p l e s m args below meth c D cA tys A ad H locs ls C hP hD hS hl
  exact lv_istore C.1 C.2.1 hd hl.1 (by have := hl.2; simp at this; omega) rfl (fun ls hl2 => k p l e s m args below meth c D cA tys A ad H locs ls C hP hD hS (LH.to1 (i := 10) (v := .int x) hl.2 (by have := hl.2; simp at this; omega) hn hl2))
theorem r_lload_10 {a0 a1 a2 a3 a4 a5 a6 a7 a8 a9 : Option Value} {r : List (Option Value)} {x : Int64} (hd : decode M.2.1 pc = .ok (.lload 10, 2)) (k : RT M dp (pc + 2) (a0 :: a1 :: a2 :: a3 :: a4 :: a5 :: a6 :: a7 :: a8 :: a9 :: some (.long x) :: r) (.long x :: st) h Q) : RT M dp pc (a0 :: a1 :: a2 :: a3 :: a4 :: a5 :: a6 :: a7 :: a8 :: a9 :: some (.long x) :: r) st h Q := by
  intro p l e s m args below meth c D cA tys A ad H locs ls C hP hD hS hl
  exact lv_lload C.1 C.2.1 hd (hl.get (i := 10) rfl) (k p l e s m args below meth c D cA tys A ad H locs ls C hP hD hS hl)
theorem r_lstore_10 {a0 a1 a2 a3 a4 a5 a6 a7 a8 a9 : Option Value} {r : List (Option Value)} {b b2 : Option Value} {x : Int64} (hd : decode M.2.1 pc = .ok (.lstore 10, 2)) (k : RT M dp (pc + 2) (a0 :: a1 :: a2 :: a3 :: a4 :: a5 :: a6 :: a7 :: a8 :: a9 :: some (.long x) :: none :: r) st h Q) (hn : nlg (a0 :: a1 :: a2 :: a3 :: a4 :: a5 :: a6 :: a7 :: a8 :: a9 :: b :: b2 :: r) 10 = true := by rfl) : RT M dp pc (a0 :: a1 :: a2 :: a3 :: a4 :: a5 :: a6 :: a7 :: a8 :: a9 :: b :: b2 :: r) (.long x :: st) h Q := by
  intro p l e s m args below meth c D cA tys A ad H locs ls C hP hD hS hl
  exact lv_lstore C.1 C.2.1 hd hl.1 (by have := hl.2; simp at this; omega) rfl (fun ls hl2 => k p l e s m args below meth c D cA tys A ad H locs ls C hP hD hS (LH.to2 (i := 10) (v := .long x) hl.2 (by have := hl.2; simp at this; omega) hn hl2))
theorem r_aload_10 {a0 a1 a2 a3 a4 a5 a6 a7 a8 a9 : Option Value} {r : List (Option Value)} {x : Nat} (hd : decode M.2.1 pc = .ok (.aload 10, 2)) (k : RT M dp (pc + 2) (a0 :: a1 :: a2 :: a3 :: a4 :: a5 :: a6 :: a7 :: a8 :: a9 :: some (.ref x) :: r) (.ref x :: st) h Q) : RT M dp pc (a0 :: a1 :: a2 :: a3 :: a4 :: a5 :: a6 :: a7 :: a8 :: a9 :: some (.ref x) :: r) st h Q := by
  intro p l e s m args below meth c D cA tys A ad H locs ls C hP hD hS hl
  exact lv_aload C.1 C.2.1 hd (hl.get (i := 10) rfl) (k p l e s m args below meth c D cA tys A ad H locs ls C hP hD hS hl)
theorem r_astore_10 {a0 a1 a2 a3 a4 a5 a6 a7 a8 a9 : Option Value} {r : List (Option Value)} {b : Option Value} {x : Nat} (hd : decode M.2.1 pc = .ok (.astore 10, 2)) (k : RT M dp (pc + 2) (a0 :: a1 :: a2 :: a3 :: a4 :: a5 :: a6 :: a7 :: a8 :: a9 :: some (.ref x) :: r) st h Q) (hn : nlg (a0 :: a1 :: a2 :: a3 :: a4 :: a5 :: a6 :: a7 :: a8 :: a9 :: b :: r) 10 = true := by rfl) : RT M dp pc (a0 :: a1 :: a2 :: a3 :: a4 :: a5 :: a6 :: a7 :: a8 :: a9 :: b :: r) (.ref x :: st) h Q := by
  intro p l e s m args below meth c D cA tys A ad H locs ls C hP hD hS hl
  exact lv_astore C.1 C.2.1 hd hl.1 (by have := hl.2; simp at this; omega) rfl (fun ls hl2 => k p l e s m args below meth c D cA tys A ad H locs ls C hP hD hS (LH.to1 (i := 10) (v := .ref x) hl.2 (by have := hl.2; simp at this; omega) hn hl2))
theorem r_iinc_10 {a0 a1 a2 a3 a4 a5 a6 a7 a8 a9 : Option Value} {r : List (Option Value)} {x v : Int32} {n : Int} (hd : decode M.2.1 pc = .ok (.iinc 10 n, 3)) (hv : Int32.ofInt n = v) (k : RT M dp (pc + 3) (a0 :: a1 :: a2 :: a3 :: a4 :: a5 :: a6 :: a7 :: a8 :: a9 :: some (.int (x + v)) :: r) st h Q) (hn : nlg (a0 :: a1 :: a2 :: a3 :: a4 :: a5 :: a6 :: a7 :: a8 :: a9 :: some (.int x) :: r) 10 = true := by rfl) : RT M dp pc (a0 :: a1 :: a2 :: a3 :: a4 :: a5 :: a6 :: a7 :: a8 :: a9 :: some (.int x) :: r) st h Q := by
  subst hv
  intro p l e s m args below meth c D cA tys A ad H locs ls C hP hD hS hl
  have hg : (10, Value.int x) ∈ lpairs ad (a0 :: a1 :: a2 :: a3 :: a4 :: a5 :: a6 :: a7 :: a8 :: a9 :: some (.int x) :: r) := mem_lpairs.mpr ⟨.int x, rfl, rfl⟩
  obtain ⟨kk, hk⟩ := List.getElem?_of_mem hg
  exact lv_iinc C.1 C.2.1 hd hl.1 hk rfl (by have := hl.2; simp at this; omega) rfl (fun ls hl2 => k p l e s m args below meth c D cA tys A ad H locs ls C hP hD hS (LH.to1 (i := 10) (v := .int (x + Int32.ofInt n)) hl.2 (by have := hl.2; simp at this; omega) hn hl2))
theorem r_if_eq {x : Int32} {off : Int} (tgt : Nat) (hd : decode M.2.1 pc = .ok (.ifCond .eq off, 3)) (ht : (pc : Int) + off = (tgt : Int)) (kt : x = 0 → RT M dp tgt lv st h Q) (kf : ¬ (x = 0) → RT M dp (pc + 3) lv st h Q) : RT M dp pc lv (.int x :: st) h Q := by
  intro p l e s m args below meth c D cA tys A ad H locs ls C hP hD hS hl
  exact lv_if_eq C.1 C.2.1 hd ht (fun q => kt q p l e s m args below meth c D cA tys A ad H locs ls C hP hD hS hl) (fun q => kf q p l e s m args below meth c D cA tys A ad H locs ls C hP hD hS hl)
theorem r_if_ne {x : Int32} {off : Int} (tgt : Nat) (hd : decode M.2.1 pc = .ok (.ifCond .ne off, 3)) (ht : (pc : Int) + off = (tgt : Int)) (kt : ¬ x = 0 → RT M dp tgt lv st h Q) (kf : x = 0 → RT M dp (pc + 3) lv st h Q) : RT M dp pc lv (.int x :: st) h Q := by
  intro p l e s m args below meth c D cA tys A ad H locs ls C hP hD hS hl
  exact lv_if_ne C.1 C.2.1 hd ht (fun q => kt q p l e s m args below meth c D cA tys A ad H locs ls C hP hD hS hl) (fun q => kf q p l e s m args below meth c D cA tys A ad H locs ls C hP hD hS hl)
theorem r_if_lt {x : Int32} {off : Int} (tgt : Nat) (hd : decode M.2.1 pc = .ok (.ifCond .lt off, 3)) (ht : (pc : Int) + off = (tgt : Int)) (kt : x < 0 → RT M dp tgt lv st h Q) (kf : ¬ (x < 0) → RT M dp (pc + 3) lv st h Q) : RT M dp pc lv (.int x :: st) h Q := by
  intro p l e s m args below meth c D cA tys A ad H locs ls C hP hD hS hl
  exact lv_if_lt C.1 C.2.1 hd ht (fun q => kt q p l e s m args below meth c D cA tys A ad H locs ls C hP hD hS hl) (fun q => kf q p l e s m args below meth c D cA tys A ad H locs ls C hP hD hS hl)
theorem r_if_ge {x : Int32} {off : Int} (tgt : Nat) (hd : decode M.2.1 pc = .ok (.ifCond .ge off, 3)) (ht : (pc : Int) + off = (tgt : Int)) (kt : 0 ≤ x → RT M dp tgt lv st h Q) (kf : ¬ (0 ≤ x) → RT M dp (pc + 3) lv st h Q) : RT M dp pc lv (.int x :: st) h Q := by
  intro p l e s m args below meth c D cA tys A ad H locs ls C hP hD hS hl
  exact lv_if_ge C.1 C.2.1 hd ht (fun q => kt q p l e s m args below meth c D cA tys A ad H locs ls C hP hD hS hl) (fun q => kf q p l e s m args below meth c D cA tys A ad H locs ls C hP hD hS hl)
theorem r_if_gt {x : Int32} {off : Int} (tgt : Nat) (hd : decode M.2.1 pc = .ok (.ifCond .gt off, 3)) (ht : (pc : Int) + off = (tgt : Int)) (kt : 0 < x → RT M dp tgt lv st h Q) (kf : ¬ (0 < x) → RT M dp (pc + 3) lv st h Q) : RT M dp pc lv (.int x :: st) h Q := by
  intro p l e s m args below meth c D cA tys A ad H locs ls C hP hD hS hl
  exact lv_if_gt C.1 C.2.1 hd ht (fun q => kt q p l e s m args below meth c D cA tys A ad H locs ls C hP hD hS hl) (fun q => kf q p l e s m args below meth c D cA tys A ad H locs ls C hP hD hS hl)
theorem r_if_le {x : Int32} {off : Int} (tgt : Nat) (hd : decode M.2.1 pc = .ok (.ifCond .le off, 3)) (ht : (pc : Int) + off = (tgt : Int)) (kt : x ≤ 0 → RT M dp tgt lv st h Q) (kf : ¬ (x ≤ 0) → RT M dp (pc + 3) lv st h Q) : RT M dp pc lv (.int x :: st) h Q := by
  intro p l e s m args below meth c D cA tys A ad H locs ls C hP hD hS hl
  exact lv_if_le C.1 C.2.1 hd ht (fun q => kt q p l e s m args below meth c D cA tys A ad H locs ls C hP hD hS hl) (fun q => kf q p l e s m args below meth c D cA tys A ad H locs ls C hP hD hS hl)
theorem r_icmp_eq {x y : Int32} {off : Int} (tgt : Nat) (hd : decode M.2.1 pc = .ok (.if_icmp .eq off, 3)) (ht : (pc : Int) + off = (tgt : Int)) (kt : x = y → RT M dp tgt lv st h Q) (kf : ¬ (x = y) → RT M dp (pc + 3) lv st h Q) : RT M dp pc lv (.int y :: .int x :: st) h Q := by
  intro p l e s m args below meth c D cA tys A ad H locs ls C hP hD hS hl
  exact lv_icmp_eq C.1 C.2.1 hd ht (fun q => kt q p l e s m args below meth c D cA tys A ad H locs ls C hP hD hS hl) (fun q => kf q p l e s m args below meth c D cA tys A ad H locs ls C hP hD hS hl)
theorem r_icmp_ne {x y : Int32} {off : Int} (tgt : Nat) (hd : decode M.2.1 pc = .ok (.if_icmp .ne off, 3)) (ht : (pc : Int) + off = (tgt : Int)) (kt : ¬ x = y → RT M dp tgt lv st h Q) (kf : x = y → RT M dp (pc + 3) lv st h Q) : RT M dp pc lv (.int y :: .int x :: st) h Q := by
  intro p l e s m args below meth c D cA tys A ad H locs ls C hP hD hS hl
  exact lv_icmp_ne C.1 C.2.1 hd ht (fun q => kt q p l e s m args below meth c D cA tys A ad H locs ls C hP hD hS hl) (fun q => kf q p l e s m args below meth c D cA tys A ad H locs ls C hP hD hS hl)
theorem r_icmp_lt {x y : Int32} {off : Int} (tgt : Nat) (hd : decode M.2.1 pc = .ok (.if_icmp .lt off, 3)) (ht : (pc : Int) + off = (tgt : Int)) (kt : x < y → RT M dp tgt lv st h Q) (kf : ¬ (x < y) → RT M dp (pc + 3) lv st h Q) : RT M dp pc lv (.int y :: .int x :: st) h Q := by
  intro p l e s m args below meth c D cA tys A ad H locs ls C hP hD hS hl
  exact lv_icmp_lt C.1 C.2.1 hd ht (fun q => kt q p l e s m args below meth c D cA tys A ad H locs ls C hP hD hS hl) (fun q => kf q p l e s m args below meth c D cA tys A ad H locs ls C hP hD hS hl)
theorem r_icmp_ge {x y : Int32} {off : Int} (tgt : Nat) (hd : decode M.2.1 pc = .ok (.if_icmp .ge off, 3)) (ht : (pc : Int) + off = (tgt : Int)) (kt : y ≤ x → RT M dp tgt lv st h Q) (kf : ¬ (y ≤ x) → RT M dp (pc + 3) lv st h Q) : RT M dp pc lv (.int y :: .int x :: st) h Q := by
  intro p l e s m args below meth c D cA tys A ad H locs ls C hP hD hS hl
  exact lv_icmp_ge C.1 C.2.1 hd ht (fun q => kt q p l e s m args below meth c D cA tys A ad H locs ls C hP hD hS hl) (fun q => kf q p l e s m args below meth c D cA tys A ad H locs ls C hP hD hS hl)
theorem r_icmp_gt {x y : Int32} {off : Int} (tgt : Nat) (hd : decode M.2.1 pc = .ok (.if_icmp .gt off, 3)) (ht : (pc : Int) + off = (tgt : Int)) (kt : y < x → RT M dp tgt lv st h Q) (kf : ¬ (y < x) → RT M dp (pc + 3) lv st h Q) : RT M dp pc lv (.int y :: .int x :: st) h Q := by
  intro p l e s m args below meth c D cA tys A ad H locs ls C hP hD hS hl
  exact lv_icmp_gt C.1 C.2.1 hd ht (fun q => kt q p l e s m args below meth c D cA tys A ad H locs ls C hP hD hS hl) (fun q => kf q p l e s m args below meth c D cA tys A ad H locs ls C hP hD hS hl)
theorem r_icmp_le {x y : Int32} {off : Int} (tgt : Nat) (hd : decode M.2.1 pc = .ok (.if_icmp .le off, 3)) (ht : (pc : Int) + off = (tgt : Int)) (kt : x ≤ y → RT M dp tgt lv st h Q) (kf : ¬ (x ≤ y) → RT M dp (pc + 3) lv st h Q) : RT M dp pc lv (.int y :: .int x :: st) h Q := by
  intro p l e s m args below meth c D cA tys A ad H locs ls C hP hD hS hl
  exact lv_icmp_le C.1 C.2.1 hd ht (fun q => kt q p l e s m args below meth c D cA tys A ad H locs ls C hP hD hS hl) (fun q => kf q p l e s m args below meth c D cA tys A ad H locs ls C hP hD hS hl)
theorem r_goto {off : Int} (tgt : Nat) (hd : decode M.2.1 pc = .ok (.goto off, 3)) (ht : (pc : Int) + off = (tgt : Int)) (k : RT M dp tgt lv st h Q) : RT M dp pc lv st h Q := by
  intro p l e s m args below meth c D cA tys A ad H locs ls C hP hD hS hl
  exact lv_goto C.1 C.2.1 hd ht (k p l e s m args below meth c D cA tys A ad H locs ls C hP hD hS hl)
theorem r_tabOut {x : Int32} {dflt lo hi : Int} {offs : Array Int} {len : Nat} (tgt : Nat) (hd : decode M.2.1 pc = .ok (.tableswitch dflt lo hi offs, len)) (hc : x.toInt < lo ∨ hi < x.toInt) (ht : (pc : Int) + dflt = (tgt : Int)) (k : RT M dp tgt lv st h Q) : RT M dp pc lv (.int x :: st) h Q := by
  intro p l e s m args below meth c D cA tys A ad H locs ls C hP hD hS hl
  exact lv_tableOut C.1 C.2.1 hd hc ht (k p l e s m args below meth c D cA tys A ad H locs ls C hP hD hS hl)
theorem r_tabIn {x : Int32} {dflt lo hi off : Int} {offs : Array Int} {len : Nat} (tgt : Nat) (hd : decode M.2.1 pc = .ok (.tableswitch dflt lo hi offs, len)) (h1 : ¬ x.toInt < lo) (h2 : ¬ hi < x.toInt) (ho : offs[(x.toInt - lo).toNat]? = some off) (ht : (pc : Int) + off = (tgt : Int)) (k : RT M dp tgt lv st h Q) : RT M dp pc lv (.int x :: st) h Q := by
  intro p l e s m args below meth c D cA tys A ad H locs ls C hP hD hS hl
  exact lv_tableIn C.1 C.2.1 hd h1 h2 ho ht (k p l e s m args below meth c D cA tys A ad H locs ls C hP hD hS hl)
theorem r_look {x : Int32} {dflt off : Int} {ps : Array (Int × Int)} {len : Nat} (tgt : Nat) (hd : decode M.2.1 pc = .ok (.lookupswitch dflt ps, len)) (hp : (ps.toList.zip (ps.toList.drop 1)).all (fun (a, next) => a.1 < next.1) = true) (ho : Op.lookupswitch.offset ps.toList dflt x.toInt = off) (ht : (pc : Int) + off = (tgt : Int)) (k : RT M dp tgt lv st h Q) : RT M dp pc lv (.int x :: st) h Q := by
  intro p l e s m args below meth c D cA tys A ad H locs ls C hP hD hS hl
  exact lv_lookup C.1 C.2.1 hd hp ho ht (k p l e s m args below meth c D cA tys A ad H locs ls C hP hD hS hl)
end RTR
