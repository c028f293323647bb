/-! ===== the same rules for any end: the law, what throws ===== -/
def GT (p : Program) (l : Launch) (e : Env) (R : Room) (s : State) (m : MethodId) (args : Array Value) (below : List Frame) (meth : Method) (c : Code) (D : va_G) (cA : Nat → ClassId) (A : Nat → Prop) (ad : Nat → Nat) (ce sl : Nat) (Qe : State → Prop) (nL pc : Nat) (lv : List (Option Value)) (st : List Value) (h : PH) : Prop :=
  ∀ (H : Heap) (locs : List Loc) (ls : Array Slot), va_P D vwCl (wld ad cA h) H → va_D A (wld ad cA h) → va_S A s.heap H locs → LH ad ls nL lv → W p l e R s m args below meth c H locs ce sl Qe (F0 m pc ls (st.map (tr ad)))
section GTR
variable {p : Program} {l : Launch} {e : Env} {R : Room} {s : State} {m : MethodId} {args : Array Value} {below : List Frame} {meth : Method} {c : Code} {D : va_G} {cA : Nat → ClassId} {tys : List (ClassId × FieldType)} {A : Nat → Prop} {ad : Nat → Nat} {ce sl : Nat} {Qe : State → Prop} {M : MI} {pc : Nat} {lv : List (Option Value)} {st : List Value} {h : PH}
theorem g_iconst (C : RCx M p s m args meth c D cA tys A ad) {n : Int} {v : Int32} (hd : decode M.2.1 pc = .ok (.iconst n, 1)) (hv : Int32.ofInt n = v) (k : GT p l e R s m args below meth c D cA A ad ce sl Qe M.2.2.1 (pc + 1) lv (.int v :: st) h) : GT p l e R s m args below meth c D cA A ad ce sl Qe M.2.2.1 pc lv st h := by
  intro H locs ls hP hD hS hl
  exact lv_iconst C.1 C.2.1 hd hv (k H locs ls hP hD hS hl)
theorem g_bipush (C : RCx M p s m args meth c D cA tys A ad) {n : Int} {v : Int32} (hd : decode M.2.1 pc = .ok (.bipush n, 2)) (hv : (Int8.ofInt n).toInt32 = v) (k : GT p l e R s m args below meth c D cA A ad ce sl Qe M.2.2.1 (pc + 2) lv (.int v :: st) h) : GT p l e R s m args below meth c D cA A ad ce sl Qe M.2.2.1 pc lv st h := by
  intro H locs ls hP hD hS hl
  exact lv_bipush C.1 C.2.1 hd hv (k H locs ls hP hD hS hl)
theorem g_iadd (C : RCx M p s m args meth c D cA tys A ad) {x y : Int32} (hd : decode M.2.1 pc = .ok (.iadd, 1)) (k : GT p l e R s m args below meth c D cA A ad ce sl Qe M.2.2.1 (pc + 1) lv (.int (x + y) :: st) h) : GT p l e R s m args below meth c D cA A ad ce sl Qe M.2.2.1 pc lv (.int y :: .int x :: st) h := by
  intro H locs ls hP hD hS hl
  exact lv_iadd C.1 C.2.1 hd (k H locs ls hP hD hS hl)
theorem g_isub (C : RCx M p s m args meth c D cA tys A ad) {x y : Int32} (hd : decode M.2.1 pc = .ok (.isub, 1)) (k : GT p l e R s m args below meth c D cA A ad ce sl Qe M.2.2.1 (pc + 1) lv (.int (x - y) :: st) h) : GT p l e R s m args below meth c D cA A ad ce sl Qe M.2.2.1 pc lv (.int y :: .int x :: st) h := by
  intro H locs ls hP hD hS hl
  exact lv_isub C.1 C.2.1 hd (k H locs ls hP hD hS hl)
theorem g_iand (C : RCx M p s m args meth c D cA tys A ad) {x y : Int32} (hd : decode M.2.1 pc = .ok (.iand, 1)) (k : GT p l e R s m args below meth c D cA A ad ce sl Qe M.2.2.1 (pc + 1) lv (.int (x &&& y) :: st) h) : GT p l e R s m args below meth c D cA A ad ce sl Qe M.2.2.1 pc lv (.int y :: .int x :: st) h := by
  intro H locs ls hP hD hS hl
  exact lv_iand C.1 C.2.1 hd (k H locs ls hP hD hS hl)
theorem g_i2l (C : RCx M p s m args meth c D cA tys A ad) {x : Int32} (hd : decode M.2.1 pc = .ok (.i2l, 1)) (k : GT p l e R s m args below meth c D cA A ad ce sl Qe M.2.2.1 (pc + 1) lv (.long x.toInt64 :: st) h) : GT p l e R s m args below meth c D cA A ad ce sl Qe M.2.2.1 pc lv (.int x :: st) h := by
  intro H locs ls hP hD hS hl
  exact lv_i2l C.1 C.2.1 hd rfl (k H locs ls hP hD hS hl)
theorem g_lcmp (C : RCx M p s m args meth c D cA tys A ad) {x y : Int64} (hd : decode M.2.1 pc = .ok (.lcmp, 1)) (k : GT p l e R s m args below meth c D cA A ad ce sl Qe M.2.2.1 (pc + 1) lv (.int (lg_cmp x y) :: st) h) : GT p l e R s m args below meth c D cA A ad ce sl Qe M.2.2.1 pc lv (.long y :: .long x :: st) h := by
  intro H locs ls hP hD hS hl
  exact W.lcmp C.1 C.2.1 hd (k H locs ls hP hD hS hl)
theorem g_iload_1 (C : RCx M p s m args meth c D cA tys A ad) {a0 : Option Value} {r : List (Option Value)} {x : Int32} (hd : decode M.2.1 pc = .ok (.iload_n 1, 1)) (k : GT p l e R s m args below meth c D cA A ad ce sl Qe M.2.2.1 (pc + 1) (a0 :: some (.int x) :: r) (.int x :: st) h) : GT p l e R s m args below meth c D cA A ad ce sl Qe M.2.2.1 pc (a0 :: some (.int x) :: r) st h := by
  intro H locs ls hP hD hS hl
  exact lv_iload_n C.1 C.2.1 hd rfl (hl.get (i := 1) rfl) (k H locs ls hP hD hS hl)
theorem g_iload_2 (C : RCx M p s m args meth c D cA tys A ad) {a0 a1 : Option Value} {r : List (Option Value)} {x : Int32} (hd : decode M.2.1 pc = .ok (.iload_n 2, 1)) (k : GT p l e R s m args below meth c D cA A ad ce sl Qe M.2.2.1 (pc + 1) (a0 :: a1 :: some (.int x) :: r) (.int x :: st) h) : GT p l e R s m args below meth c D cA A ad ce sl Qe M.2.2.1 pc (a0 :: a1 :: some (.int x) :: r) st h := by
  intro H locs ls hP hD hS hl
  exact lv_iload_n C.1 C.2.1 hd rfl (hl.get (i := 2) rfl) (k H locs ls hP hD hS hl)
theorem g_iload_4 (C : RCx M p s m args meth c D cA tys A ad) {a0 a1 a2 a3 : Option Value} {r : List (Option Value)} {x : Int32} (hd : decode M.2.1 pc = .ok (.iload 4, 2)) (k : GT p l e R s m args below meth c D cA A ad ce sl Qe M.2.2.1 (pc + 2) (a0 :: a1 :: a2 :: a3 :: some (.int x) :: r) (.int x :: st) h) : GT p l e R s m args below meth c D cA A ad ce sl Qe M.2.2.1 pc (a0 :: a1 :: a2 :: a3 :: some (.int x) :: r) st h := by
  intro H locs ls hP hD hS hl
  exact lv_iload C.1 C.2.1 hd (hl.get (i := 4) rfl) (k H locs ls hP hD hS hl)
theorem g_iload_5 (C : RCx M p s m args meth c D cA tys A ad) {a0 a1 a2 a3 a4 : Option Value} {r : List (Option Value)} {x : Int32} (hd : decode M.2.1 pc = .ok (.iload 5, 2)) (k : GT p l e R s m args below meth c D cA A ad ce sl Qe M.2.2.1 (pc + 2) (a0 :: a1 :: a2 :: a3 :: a4 :: some (.int x) :: r) (.int x :: st) h) : GT p l e R s m args below meth c D cA A ad ce sl Qe M.2.2.1 pc (a0 :: a1 :: a2 :: a3 :: a4 :: some (.int x) :: r) st h := by
  intro H locs ls hP hD hS hl
  exact lv_iload C.1 C.2.1 hd (hl.get (i := 5) rfl) (k H locs ls hP hD hS hl)
theorem g_iload_6 (C : RCx M p s m args meth c D cA tys A ad) {a0 a1 a2 a3 a4 a5 : Option Value} {r : List (Option Value)} {x : Int32} (hd : decode M.2.1 pc = .ok (.iload 6, 2)) (k : GT p l e R s m args below meth c D cA A ad ce sl Qe M.2.2.1 (pc + 2) (a0 :: a1 :: a2 :: a3 :: a4 :: a5 :: some (.int x) :: r) (.int x :: st) h) : GT p l e R s m args below meth c D cA A ad ce sl Qe M.2.2.1 pc (a0 :: a1 :: a2 :: a3 :: a4 :: a5 :: some (.int x) :: r) st h := by
  intro H locs ls hP hD hS hl
  exact lv_iload C.1 C.2.1 hd (hl.get (i := 6) rfl) (k H locs ls hP hD hS hl)
theorem g_aload_0 (C : RCx M p s m args meth c D cA tys A ad) {r : List (Option Value)} {x : Nat} (hd : decode M.2.1 pc = .ok (.aload_n 0, 1)) (k : GT p l e R s m args below meth c D cA A ad ce sl Qe M.2.2.1 (pc + 1) (some (.ref x) :: r) (.ref x :: st) h) : GT p l e R s m args below meth c D cA A ad ce sl Qe M.2.2.1 pc (some (.ref x) :: r) st h := by
  intro H locs ls hP hD hS hl
  exact lv_aload_n C.1 C.2.1 hd rfl (hl.get (i := 0) rfl) (k H locs ls hP hD hS hl)
theorem g_aload_1 (C : RCx M p s m args meth c D cA tys A ad) {a0 : Option Value} {r : List (Option Value)} {x : Nat} (hd : decode M.2.1 pc = .ok (.aload_n 1, 1)) (k : GT p l e R s m args below meth c D cA A ad ce sl Qe M.2.2.1 (pc + 1) (a0 :: some (.ref x) :: r) (.ref x :: st) h) : GT p l e R s m args below meth c D cA A ad ce sl Qe M.2.2.1 pc (a0 :: some (.ref x) :: r) st h := by
  intro H locs ls hP hD hS hl
  exact lv_aload_n C.1 C.2.1 hd rfl (hl.get (i := 1) rfl) (k H locs ls hP hD hS hl)
theorem g_aload_2 (C : RCx M p s m args meth c D cA tys A ad) {a0 a1 : Option Value} {r : List (Option Value)} {x : Nat} (hd : decode M.2.1 pc = .ok (.aload_n 2, 1)) (k : GT p l e R s m args below meth c D cA A ad ce sl Qe M.2.2.1 (pc + 1) (a0 :: a1 :: some (.ref x) :: r) (.ref x :: st) h) : GT p l e R s m args below meth c D cA A ad ce sl Qe M.2.2.1 pc (a0 :: a1 :: some (.ref x) :: r) st h := by
  intro H locs ls hP hD hS hl
  exact lv_aload_n C.1 C.2.1 hd rfl (hl.get (i := 2) rfl) (k H locs ls hP hD hS hl)
theorem g_aload_3 (C : RCx M p s m args meth c D cA tys A ad) {a0 a1 a2 : Option Value} {r : List (Option Value)} {x : Nat} (hd : decode M.2.1 pc = .ok (.aload_n 3, 1)) (k : GT p l e R s m args below meth c D cA A ad ce sl Qe M.2.2.1 (pc + 1) (a0 :: a1 :: a2 :: some (.ref x) :: r) (.ref x :: st) h) : GT p l e R s m args below meth c D cA A ad ce sl Qe M.2.2.1 pc (a0 :: a1 :: a2 :: some (.ref x) :: r) st h := by
  intro H locs ls hP hD hS hl
  exact lv_aload_n C.1 C.2.1 hd rfl (hl.get (i := 3) rfl) (k H locs ls hP hD hS hl)
theorem g_istore_2 (C : RCx M p s m args meth c D cA tys A ad) {a0 a1 : Option Value} {r : List (Option Value)} {b : Option Value} {x : Int32} (hd : decode M.2.1 pc = .ok (.istore_n 2, 1)) (k : GT p l e R s m args below meth c D cA A ad ce sl Qe M.2.2.1 (pc + 1) (a0 :: a1 :: some (.int x) :: r) st h) (hn : nlg (a0 :: a1 :: b :: r) 2 = true := by rfl) : GT p l e R s m args below meth c D cA A ad ce sl Qe M.2.2.1 pc (a0 :: a1 :: b :: r) (.int x :: st) h := by
  intro H locs ls hP hD hS hl
  exact lv_istore_n C.1 C.2.1 hd rfl hl.1 (by have := hl.2; simp at this; omega) rfl (fun ls hl2 => k H locs ls hP hD hS (LH.to1 (i := 2) (v := .int x) hl.2 (by have := hl.2; simp at this; omega) hn hl2))
theorem g_istore_4 (C : RCx M p s m args meth c D cA tys A ad) {a0 a1 a2 a3 : Option Value} {r : List (Option Value)} {b : Option Value} {x : Int32} (hd : decode M.2.1 pc = .ok (.istore 4, 2)) (k : GT p l e R s m args below meth c D cA A ad ce sl Qe M.2.2.1 (pc + 2) (a0 :: a1 :: a2 :: a3 :: some (.int x) :: r) st h) (hn : nlg (a0 :: a1 :: a2 :: a3 :: b :: r) 4 = true := by rfl) : GT p l e R s m args below meth c D cA A ad ce sl Qe M.2.2.1 pc (a0 :: a1 :: a2 :: a3 :: b :: r) (.int x :: st) h := by
  intro H locs ls hP hD hS hl
  exact lv_istore C.1 C.2.1 hd hl.1 (by have := hl.2; simp at this; omega) rfl (fun ls hl2 => k H locs ls hP hD hS (LH.to1 (i := 4) (v := .int x) hl.2 (by have := hl.2; simp at this; omega) hn hl2))
theorem g_istore_5 (C : RCx M p s m args meth c D cA tys A ad) {a0 a1 a2 a3 a4 : Option Value} {r : List (Option Value)} {b : Option Value} {x : Int32} (hd : decode M.2.1 pc = .ok (.istore 5, 2)) (k : GT p l e R s m args below meth c D cA A ad ce sl Qe M.2.2.1 (pc + 2) (a0 :: a1 :: a2 :: a3 :: a4 :: some (.int x) :: r) st h) (hn : nlg (a0 :: a1 :: a2 :: a3 :: a4 :: b :: r) 5 = true := by rfl) : GT p l e R s m args below meth c D cA A ad ce sl Qe M.2.2.1 pc (a0 :: a1 :: a2 :: a3 :: a4 :: b :: r) (.int x :: st) h := by
  intro H locs ls hP hD hS hl
  exact lv_istore C.1 C.2.1 hd hl.1 (by have := hl.2; simp at this; omega) rfl (fun ls hl2 => k H locs ls hP hD hS (LH.to1 (i := 5) (v := .int x) hl.2 (by have := hl.2; simp at this; omega) hn hl2))
theorem g_istore_6 (C : RCx M p s m args meth c D cA tys A ad) {a0 a1 a2 a3 a4 a5 : Option Value} {r : List (Option Value)} {b : Option Value} {x : Int32} (hd : decode M.2.1 pc = .ok (.istore 6, 2)) (k : GT p l e R s m args below meth c D cA A ad ce sl Qe M.2.2.1 (pc + 2) (a0 :: a1 :: a2 :: a3 :: a4 :: a5 :: some (.int x) :: r) st h) (hn : nlg (a0 :: a1 :: a2 :: a3 :: a4 :: a5 :: b :: r) 6 = true := by rfl) : GT p l e R s m args below meth c D cA A ad ce sl Qe M.2.2.1 pc (a0 :: a1 :: a2 :: a3 :: a4 :: a5 :: b :: r) (.int x :: st) h := by
  intro H locs ls hP hD hS hl
  exact lv_istore C.1 C.2.1 hd hl.1 (by have := hl.2; simp at this; omega) rfl (fun ls hl2 => k H locs ls hP hD hS (LH.to1 (i := 6) (v := .int x) hl.2 (by have := hl.2; simp at this; omega) hn hl2))
theorem g_astore_1 (C : RCx M p s m args meth c D cA tys A ad) {a0 : Option Value} {r : List (Option Value)} {b : Option Value} {x : Nat} (hd : decode M.2.1 pc = .ok (.astore_n 1, 1)) (k : GT p l e R s m args below meth c D cA A ad ce sl Qe M.2.2.1 (pc + 1) (a0 :: some (.ref x) :: r) st h) (hn : nlg (a0 :: b :: r) 1 = true := by rfl) : GT p l e R s m args below meth c D cA A ad ce sl Qe M.2.2.1 pc (a0 :: b :: r) (.ref x :: st) h := by
  intro H locs ls hP hD hS hl
  exact lv_astore_n C.1 C.2.1 hd rfl hl.1 (by have := hl.2; simp at this; omega) rfl (fun ls hl2 => k H locs ls hP hD hS (LH.to1 (i := 1) (v := .ref x) hl.2 (by have := hl.2; simp at this; omega) hn hl2))
theorem g_astore_2 (C : RCx M p s m args meth c D cA tys A ad) {a0 a1 : Option Value} {r : List (Option Value)} {b : Option Value} {x : Nat} (hd : decode M.2.1 pc = .ok (.astore_n 2, 1)) (k : GT p l e R s m args below meth c D cA A ad ce sl Qe M.2.2.1 (pc + 1) (a0 :: a1 :: some (.ref x) :: r) st h) (hn : nlg (a0 :: a1 :: b :: r) 2 = true := by rfl) : GT p l e R s m args below meth c D cA A ad ce sl Qe M.2.2.1 pc (a0 :: a1 :: b :: r) (.ref x :: st) h := by
  intro H locs ls hP hD hS hl
  exact lv_astore_n C.1 C.2.1 hd rfl hl.1 (by have := hl.2; simp at this; omega) rfl (fun ls hl2 => k H locs ls hP hD hS (LH.to1 (i := 2) (v := .ref x) hl.2 (by have := hl.2; simp at this; omega) hn hl2))
theorem g_astore_3 (C : RCx M p s m args meth c D cA tys A ad) {a0 a1 a2 : Option Value} {r : List (Option Value)} {b : Option Value} {x : Nat} (hd : decode M.2.1 pc = .ok (.astore_n 3, 1)) (k : GT p l e R s m args below meth c D cA A ad ce sl Qe M.2.2.1 (pc + 1) (a0 :: a1 :: a2 :: some (.ref x) :: r) st h) (hn : nlg (a0 :: a1 :: a2 :: b :: r) 3 = true := by rfl) : GT p l e R s m args below meth c D cA A ad ce sl Qe M.2.2.1 pc (a0 :: a1 :: a2 :: b :: r) (.ref x :: st) h := by
  intro H locs ls hP hD hS hl
  exact lv_astore_n C.1 C.2.1 hd rfl hl.1 (by have := hl.2; simp at this; omega) rfl (fun ls hl2 => k H locs ls hP hD hS (LH.to1 (i := 3) (v := .ref x) hl.2 (by have := hl.2; simp at this; omega) hn hl2))
theorem g_iinc_4 (C : RCx M p s m args meth c D cA tys A ad) {a0 a1 a2 a3 : Option Value} {r : List (Option Value)} {x v : Int32} {n : Int} (hd : decode M.2.1 pc = .ok (.iinc 4 n, 3)) (hv : Int32.ofInt n = v) (k : GT p l e R s m args below meth c D cA A ad ce sl Qe M.2.2.1 (pc + 3) (a0 :: a1 :: a2 :: a3 :: some (.int (x + v)) :: r) st h) (hn : nlg (a0 :: a1 :: a2 :: a3 :: some (.int x) :: r) 4 = true := by rfl) : GT p l e R s m args below meth c D cA A ad ce sl Qe M.2.2.1 pc (a0 :: a1 :: a2 :: a3 :: some (.int x) :: r) st h := by
  subst hv
  intro H locs ls hP hD hS hl
  have hg : (4, Value.int x) ∈ lpairs ad (a0 :: a1 :: a2 :: a3 :: some (.int x) :: r) := mem_lpairs.mpr ⟨.int x, rfl, rfl⟩
  obtain ⟨kk, hk⟩ := List.getElem?_of_mem hg
  exact lv_iinc C.1 C.2.1 hd hl.1 hk rfl (by have := hl.2; simp at this; omega) rfl (fun ls hl2 => k H locs ls hP hD hS (LH.to1 (i := 4) (v := .int (x + Int32.ofInt n)) hl.2 (by have := hl.2; simp at this; omega) hn hl2))
theorem g_if_eq (C : RCx M p s m args meth c D cA tys A ad) {x : Int32} {off : Int} (tgt : Nat) (hd : decode M.2.1 pc = .ok (.ifCond .eq off, 3)) (ht : (pc : Int) + off = (tgt : Int)) (kt : x = 0 → GT p l e R s m args below meth c D cA A ad ce sl Qe M.2.2.1 tgt lv st h) (kf : ¬ (x = 0) → GT p l e R s m args below meth c D cA A ad ce sl Qe M.2.2.1 (pc + 3) lv st h) : GT p l e R s m args below meth c D cA A ad ce sl Qe M.2.2.1 pc lv (.int x :: st) h := by
  intro H locs ls hP hD hS hl
  exact lv_if_eq C.1 C.2.1 hd ht (fun q => kt q H locs ls hP hD hS hl) (fun q => kf q H locs ls hP hD hS hl)
theorem g_if_ne (C : RCx M p s m args meth c D cA tys A ad) {x : Int32} {off : Int} (tgt : Nat) (hd : decode M.2.1 pc = .ok (.ifCond .ne off, 3)) (ht : (pc : Int) + off = (tgt : Int)) (kt : ¬ x = 0 → GT p l e R s m args below meth c D cA A ad ce sl Qe M.2.2.1 tgt lv st h) (kf : x = 0 → GT p l e R s m args below meth c D cA A ad ce sl Qe M.2.2.1 (pc + 3) lv st h) : GT p l e R s m args below meth c D cA A ad ce sl Qe M.2.2.1 pc lv (.int x :: st) h := by
  intro H locs ls hP hD hS hl
  exact lv_if_ne C.1 C.2.1 hd ht (fun q => kt q H locs ls hP hD hS hl) (fun q => kf q H locs ls hP hD hS hl)
theorem g_if_lt (C : RCx M p s m args meth c D cA tys A ad) {x : Int32} {off : Int} (tgt : Nat) (hd : decode M.2.1 pc = .ok (.ifCond .lt off, 3)) (ht : (pc : Int) + off = (tgt : Int)) (kt : x < 0 → GT p l e R s m args below meth c D cA A ad ce sl Qe M.2.2.1 tgt lv st h) (kf : ¬ (x < 0) → GT p l e R s m args below meth c D cA A ad ce sl Qe M.2.2.1 (pc + 3) lv st h) : GT p l e R s m args below meth c D cA A ad ce sl Qe M.2.2.1 pc lv (.int x :: st) h := by
  intro H locs ls hP hD hS hl
  exact lv_if_lt C.1 C.2.1 hd ht (fun q => kt q H locs ls hP hD hS hl) (fun q => kf q H locs ls hP hD hS hl)
theorem g_icmp_eq (C : RCx M p s m args meth c D cA tys A ad) {x y : Int32} {off : Int} (tgt : Nat) (hd : decode M.2.1 pc = .ok (.if_icmp .eq off, 3)) (ht : (pc : Int) + off = (tgt : Int)) (kt : x = y → GT p l e R s m args below meth c D cA A ad ce sl Qe M.2.2.1 tgt lv st h) (kf : ¬ (x = y) → GT p l e R s m args below meth c D cA A ad ce sl Qe M.2.2.1 (pc + 3) lv st h) : GT p l e R s m args below meth c D cA A ad ce sl Qe M.2.2.1 pc lv (.int y :: .int x :: st) h := by
  intro H locs ls hP hD hS hl
  exact lv_icmp_eq C.1 C.2.1 hd ht (fun q => kt q H locs ls hP hD hS hl) (fun q => kf q H locs ls hP hD hS hl)
theorem g_icmp_ne (C : RCx M p s m args meth c D cA tys A ad) {x y : Int32} {off : Int} (tgt : Nat) (hd : decode M.2.1 pc = .ok (.if_icmp .ne off, 3)) (ht : (pc : Int) + off = (tgt : Int)) (kt : ¬ x = y → GT p l e R s m args below meth c D cA A ad ce sl Qe M.2.2.1 tgt lv st h) (kf : x = y → GT p l e R s m args below meth c D cA A ad ce sl Qe M.2.2.1 (pc + 3) lv st h) : GT p l e R s m args below meth c D cA A ad ce sl Qe M.2.2.1 pc lv (.int y :: .int x :: st) h := by
  intro H locs ls hP hD hS hl
  exact lv_icmp_ne C.1 C.2.1 hd ht (fun q => kt q H locs ls hP hD hS hl) (fun q => kf q H locs ls hP hD hS hl)
theorem g_icmp_gt (C : RCx M p s m args meth c D cA tys A ad) {x y : Int32} {off : Int} (tgt : Nat) (hd : decode M.2.1 pc = .ok (.if_icmp .gt off, 3)) (ht : (pc : Int) + off = (tgt : Int)) (kt : y < x → GT p l e R s m args below meth c D cA A ad ce sl Qe M.2.2.1 tgt lv st h) (kf : ¬ (y < x) → GT p l e R s m args below meth c D cA A ad ce sl Qe M.2.2.1 (pc + 3) lv st h) : GT p l e R s m args below meth c D cA A ad ce sl Qe M.2.2.1 pc lv (.int y :: .int x :: st) h := by
  intro H locs ls hP hD hS hl
  exact lv_icmp_gt C.1 C.2.1 hd ht (fun q => kt q H locs ls hP hD hS hl) (fun q => kf q H locs ls hP hD hS hl)
theorem g_icmp_le (C : RCx M p s m args meth c D cA tys A ad) {x y : Int32} {off : Int} (tgt : Nat) (hd : decode M.2.1 pc = .ok (.if_icmp .le off, 3)) (ht : (pc : Int) + off = (tgt : Int)) (kt : x ≤ y → GT p l e R s m args below meth c D cA A ad ce sl Qe M.2.2.1 tgt lv st h) (kf : ¬ (x ≤ y) → GT p l e R s m args below meth c D cA A ad ce sl Qe M.2.2.1 (pc + 3) lv st h) : GT p l e R s m args below meth c D cA A ad ce sl Qe M.2.2.1 pc lv (.int y :: .int x :: st) h := by
  intro H locs ls hP hD hS hl
  exact lv_icmp_le C.1 C.2.1 hd ht (fun q => kt q H locs ls hP hD hS hl) (fun q => kf q H locs ls hP hD hS hl)
theorem g_goto (C : RCx M p s m args meth c D cA tys A ad) {off : Int} (tgt : Nat) (hd : decode M.2.1 pc = .ok (.goto off, 3)) (ht : (pc : Int) + off = (tgt : Int)) (k : GT p l e R s m args below meth c D cA A ad ce sl Qe M.2.2.1 tgt lv st h) : GT p l e R s m args below meth c D cA A ad ce sl Qe M.2.2.1 pc lv st h := by
  intro H locs ls hP hD hS hl
  exact lv_goto C.1 C.2.1 hd ht (k H locs ls hP hD hS hl)
theorem g_tabOut (C : RCx M p s m args meth c D cA tys A ad) {x : Int32} {dflt lo hi : Int} {offs : Array Int} {len : Nat} (tgt : Nat) (hd : decode M.2.1 pc = .ok (.tableswitch dflt lo hi offs, len)) (hc : x.toInt < lo ∨ hi < x.toInt) (ht : (pc : Int) + dflt = (tgt : Int)) (k : GT p l e R s m args below meth c D cA A ad ce sl Qe M.2.2.1 tgt lv st h) : GT p l e R s m args below meth c D cA A ad ce sl Qe M.2.2.1 pc lv (.int x :: st) h := by
  intro H locs ls hP hD hS hl
  exact lv_tableOut C.1 C.2.1 hd hc ht (k H locs ls hP hD hS hl)
theorem g_tabIn (C : RCx M p s m args meth c D cA tys A ad) {x : Int32} {dflt lo hi off : Int} {offs : Array Int} {len : Nat} (tgt : Nat) (hd : decode M.2.1 pc = .ok (.tableswitch dflt lo hi offs, len)) (h1 : ¬ x.toInt < lo) (h2 : ¬ hi < x.toInt) (ho : offs[(x.toInt - lo).toNat]? = some off) (ht : (pc : Int) + off = (tgt : Int)) (k : GT p l e R s m args below meth c D cA A ad ce sl Qe M.2.2.1 tgt lv st h) : GT p l e R s m args below meth c D cA A ad ce sl Qe M.2.2.1 pc lv (.int x :: st) h := by
  intro H locs ls hP hD hS hl
  exact lv_tableIn C.1 C.2.1 hd h1 h2 ho ht (k H locs ls hP hD hS hl)
theorem gt_get (C : RCx M p s m args meth c D cA tys A ad) {i ci kf kind o : Nat} {v : Value} (hd : decode M.2.1 pc = .ok (.getfield i, 3)) (hf : FLk M.1.cls i ci kf kind) (hs : shp o = some (.inl ci)) (hv : fval h ci o kf = v) (k : GT p l e R s m args below meth c D cA A ad ce sl Qe M.2.2.1 (pc + 3) lv (v :: st) h) : GT p l e R s m args below meth c D cA A ad ce sl Qe M.2.2.1 pc lv (.ref o :: st) h := by
  subst hv
  intro H locs ls hP hD hS hl
  refine va_get (C := cR ci) (T := cT ci) (N := nfl ci) (ref := (cT ci kf).1) C.1 C.2.1 C.2.2.2.2.1 (in_tbl hf.2.2.2) C.2.2.2.1 C.2.2.2.2.2.2.2.1 hP o (fs := fvs ad h ci o) ?_ (vwCl_at hf.2.2.2) kf hf.2.1 (C.2.2.2.2.1 _ hf.1) (fun _ q => q) (fvs_get hf.2.1) hd (k H locs ls hP hD hS hl)
  rw [wld_get (shp_lt hs), cellE_o hs]
theorem g_getI (C : RCx M p s m args meth c D cA tys A ad) {i ci kf o : Nat} (hd : decode M.2.1 pc = .ok (.getfield i, 3)) (hf : FLk M.1.cls i ci kf 0) (hs : shp o = some (.inl ci)) (k : GT p l e R s m args below meth c D cA A ad ce sl Qe M.2.2.1 (pc + 3) lv (.int (h.1 o kf) :: st) h) : GT p l e R s m args below meth c D cA A ad ce sl Qe M.2.2.1 pc lv (.ref o :: st) h := gt_get C hd hf hs (fval_0 hf.2.2.1) k
theorem g_getR (C : RCx M p s m args meth c D cA tys A ad) {i ci kf o a : Nat} (hd : decode M.2.1 pc = .ok (.getfield i, 3)) (hf : FLk M.1.cls i ci kf 2) (hs : shp o = some (.inl ci)) (ha : o + offs ci kf = a) (k : GT p l e R s m args below meth c D cA A ad ce sl Qe M.2.2.1 (pc + 3) lv (.ref a :: st) h) : GT p l e R s m args below meth c D cA A ad ce sl Qe M.2.2.1 pc lv (.ref o :: st) h := gt_get C hd hf hs ((fval_2 hf.2.2.1).trans (by rw [ha])) k
theorem g_lald (C : RCx M p s m args meth c D cA tys A ad) {i : Int32} {o n : Nat} (hd : decode M.2.1 pc = .ok (.laload, 1)) (hs : shp o = some (.inr (.long, n))) (hi : vp_in i n) (k : GT p l e R s m args below meth c D cA A ad ce sl Qe M.2.2.1 (pc + 1) lv (.long (h.2 o i.toNatClampNeg) :: st) h) : GT p l e R s m args below meth c D cA A ad ce sl Qe M.2.2.1 pc lv (.int i :: .ref o :: st) h := by
  intro H locs ls hP hD hS hl
  obtain ⟨t0, ht⟩ := C.2.2.2.2.2.2.2.2.1 o _ n hs
  refine va_lald C.1 C.2.1 C.2.2.2.2.2.2.2.1 hP o t0 (cA := cA o) (n := n) (f := h.2 o) ?_ ht hi hd (k H locs ls hP hD hS hl)
  rw [wld_get (shp_lt hs), cellE_l hs]
theorem g_last (C : RCx M p s m args meth c D cA tys A ad) {i : Int32} {x : Int64} {o n : Nat} (hd : decode M.2.1 pc = .ok (.lastore, 1)) (hs : shp o = some (.inr (.long, n))) (hi : vp_in i n) (k : GT p l e R s m args below meth c D cA A ad ce sl Qe M.2.2.1 (pc + 1) lv st (pL h o i.toNatClampNeg x)) : GT p l e R s m args below meth c D cA A ad ce sl Qe M.2.2.1 pc lv (.long x :: .int i :: .ref o :: st) h := by
  intro H locs ls hP hD hS hl
  obtain ⟨t0, ht⟩ := C.2.2.2.2.2.2.2.2.1 o _ n hs
  refine va_last C.1 C.2.1 C.2.2.2.2.2.2.2.1 hP hD hS o t0 (cA := cA o) (n := n) (f := h.2 o) (by rw [wld_get (shp_lt hs), cellE_l hs]) ht hi hd (fun H1 locs1 hP1 hD1 hS1 => ?_)
  rw [wld_set (h' := pL h o i.toNatClampNeg x) (by rw [cellE_l hs]; refine congrArg (fun f => Sum.inl (cA o, n, Sum.inr (Sum.inl f))) (funext fun j => ?_); simp [pL, vp_updL]) (fun a ha => cellE_c (h := h) rfl (funext fun j => pL_ne a j (Or.inl ha)))] at hP1 hD1
  exact k H1 locs1 ls hP1 hD1 hS1 hl
theorem g_widen {ce' sl' : Nat} (h1 : ce ≤ ce') (h2 : sl ≤ sl') (k : GT p l e R s m args below meth c D cA A ad ce' sl' Qe M.2.2.1 pc lv st h) : GT p l e R s m args below meth c D cA A ad ce sl Qe M.2.2.1 pc lv st h := by
  intro H locs ls hP hD hS hl
  exact W.widen h1 h2 (k H locs ls hP hD hS hl)
theorem g_sub {lv' : List (Option Value)} (hs : lsub lv lv') (k : GT p l e R s m args below meth c D cA A ad ce sl Qe M.2.2.1 pc lv' st h) : GT p l e R s m args below meth c D cA A ad ce sl Qe M.2.2.1 pc lv st h := by
  intro H locs ls hP hD hS hl
  obtain ⟨g1, g2⟩ := lsub_get hs
  refine k H locs ls hP hD hS ⟨⟨hl.1.1, hl.1.2.1, fun q hq => ?_⟩, g1.symm.trans hl.2⟩
  obtain ⟨i, v⟩ := q
  obtain ⟨u, hu, rfl⟩ := mem_lpairs.mp hq
  exact hl.1.2.2 _ (mem_lpairs.mpr ⟨u, g2 i u hu, rfl⟩)
theorem g_cwV {own : String} {idx : Nat} {M' : MI} {ci n d' : Nat} (ht : ∀ w ∈ rt_tbl, w.before args s = true) (hM : MOv M' ci n) (hl : Cond.methodLink own idx M'.1 ∈ rt_tbl) (hR : d' + 1 ≤ R.frames ∧ 34 + 34 * d' ≤ R.locals) : CallW R s args own (cR ci) idx M'.1 M'.2.1 M'.2.2.1 M'.2.2.2 (rt_ws M') (rtR d') 0 0 n := by
  refine cwV (Ts := rt_tbl) (ws' := rt_tbl) n ht (tbl_in (fun w hw => ?_) (fun _ h => h)) rfl rfl rfl hM.2.2.2.2.1 ⟨hR.1, ?_⟩
  · rcases List.mem_append.mp hw with h | h
    · simp only [List.mem_cons, List.not_mem_nil, or_false] at h
      rcases h with rfl | rfl | rfl | rfl
      · exact hl
      · exact hM.1
      · exact hM.2.1
      · exact hM.2.2.1
    · exact rt_ws_in hM.2.2.2.1 w h
  · have := hM.2.2.2.2.2.2
    have := hR.2
    show 8 + (M'.2.2.1 + 11) + 34 * d' ≤ R.locals
    omega
theorem g_cwS {own : String} {idx : Nat} {M' : MI} {n d' : Nat} (ht : ∀ w ∈ rt_tbl, w.before args s = true) (hM : MOs M' n) (hl : Cond.methodLink own idx M'.1 ∈ rt_tbl) (hR : d' + 1 ≤ R.frames ∧ 34 + 34 * d' ≤ R.locals) : CallB R s args own idx M'.1 M'.2.1 M'.2.2.1 M'.2.2.2 (rt_ws M') (rtR d') 0 0 n ∧ (Cond.static M'.1).before args s = true := by
  refine va_cwS (Ts := rt_tbl) (ws' := rt_tbl) n ht (tbl_in (fun w hw => ?_) (fun _ h => h)) rfl rfl rfl hM.2.2.2.1 ⟨hR.1, ?_⟩
  · rcases List.mem_append.mp hw with h | h
    · simp only [List.mem_cons, List.not_mem_nil, or_false] at h
      rcases h with rfl | rfl | rfl
      · exact hl
      · exact hM.1
      · exact hM.2.1
    · exact rt_ws_in hM.2.2.1 w h
  · have := hM.2.2.2.2
    have := hR.2
    show 8 + (M'.2.2.1 + 11) + 34 * d' ≤ R.locals
    omega
theorem g_after {H : Heap} {locs : List Loc} {ls : Array Slot} {st0 rest : List Value} {a : Array Value} {M' : MI} {Q' : Option Value → PH → Prop}
    (hr : va_Run p l e R s m args below meth c H locs ce sl 0 0 (F0 m pc ls st0) rest (RQ D cA A ad (QT M' Q') a) A) (hS : va_S A s.heap H locs)
    (kk : ∀ (v : Option Value) (h' : PH) (H1 : Heap) (locs1 : List Loc), QT M' Q' v h' → va_P D vwCl (wld ad cA h') H1 → va_D A (wld ad cA h') → va_S A s.heap H1 locs1 → W p l e R s m args below meth c H1 locs1 ce sl Qe (F0 m (pc + 3) ls ((v.map (tr ad)).toList ++ rest))) : W p l e R s m args below meth c H locs ce sl Qe (F0 m pc ls st0) := by
  intro T hT X
  obtain ⟨v, st₀, t, T', L, h0, X', hL, e1, e2, ⟨⟨v', h', hv, hq, hp, hd⟩, hz, hk⟩, stp⟩ := hr T hT X
  cases hv
  rw [h0] at hz hk
  obtain ⟨t2, a1, b1⟩ := kk v' h' T'.heap (locs ++ L) hq (by rw [e1]; exact hp) hd
    ⟨Nat.le_trans hS.1 (by rw [e1]; exact hz), fun q h1 h2 => by rw [e1, hk q (Nat.lt_of_lt_of_le h1 hS.1) h2]; exact hS.2.1 q h1 h2, fun q hq => by
      rcases List.mem_append.mp hq with h | h
      · exact hS.2.2 q h
      · exact hL q h⟩ T' rfl X'
  exact ⟨t2, stp t2 a1, b1⟩
theorem tr_list (ad : Nat → Nat) (v : Option Value) (st : List Value) : (v.map (tr ad)).toList ++ st.map (tr ad) = (v.toList ++ st).map (tr ad) := by cases v <;> rfl
theorem g_callV (C : RCx M p s m args meth c D cA tys A ad) {i ci n d' o : Nat} {M' : MI} {as : List Value} {Q' : Option Value → PH → Prop} {st0 : List Value} (hd : decode M.2.1 pc = .ok (.invokevirtual i, 3)) (hlk : Cond.methodLink M.1.cls i M'.1 ∈ rt_tbl) (hM : MOv M' ci n) (hs : shp o = some (.inl ci)) (hc : Con M' d' (.ref o :: as) h Q') (hR : d' + 1 ≤ R.frames ∧ 34 + 34 * d' ≤ R.locals) (hce : ce ≤ R.cells ∧ sl ≤ R.slots) (hn : as.length = n) (hst : st0 = as.reverse ++ .ref o :: st) (hw : (stw st).ble 8 = true) (k : ∀ v h', QT M' Q' v h' → GT p l e R s m args below meth c D cA A ad ce sl Qe M.2.2.1 (pc + 3) lv (v.toList ++ st) h') : GT p l e R s m args below meth c D cA A ad ce sl Qe M.2.2.1 pc lv st0 h := by
  subst hst
  intro H locs ls hP hD hS hl
  have hg : (wld ad cA h)[o]? = some (ad o, .inr (ci, fvs ad h ci o)) := by rw [wld_get (shp_lt hs), cellE_o hs]
  refine g_after (rest := st.map (tr ad)) (va_runV (As := as.map (tr ad)) (rest := st.map (tr ad)) ⟨C.1, C.2.1, C.2.2.1, C.2.2.2.1, C.2.2.2.2.1⟩ (hc l D cA tys A ad C.2.2.2.2.2.2.2.2.1) (g_cwV C.2.2.2.2.1 hM hlk hR) ⟨RPc.blind, va_recv C.2.2.2.2.2.2.2.1 hP (vwCl_at hM.2.2.2.2.2.1) hg, fun U hU hW => rt_pre C hP hD hS hU hW⟩ rfl (by simpa using hn) hl.1.1 (by simp [tr]) (lv_room (Nat.le_trans (stw_le ad st) (Nat.le_of_ble_eq_true hw))) hd ⟨hce.1, hce.2⟩) hS (fun v h' H1 locs1 hq hP1 hD1 hS1 => ?_)
  rw [tr_list]
  exact k v h' hq H1 locs1 ls hP1 hD1 hS1 hl
theorem g_callS (C : RCx M p s m args meth c D cA tys A ad) {i n d' : Nat} {M' : MI} {as : List Value} {Q' : Option Value → PH → Prop} {st0 : List Value} (hd : decode M.2.1 pc = .ok (.invokestatic i, 3)) (hlk : Cond.methodLink M.1.cls i M'.1 ∈ rt_tbl) (hM : MOs M' n) (hc : Con M' d' as h Q') (hR : d' + 1 ≤ R.frames ∧ 34 + 34 * d' ≤ R.locals) (hce : ce ≤ R.cells ∧ sl ≤ R.slots) (hn : as.length = n) (hst : st0 = as.reverse ++ st) (hw : (stw st).ble 8 = true) (k : ∀ v h', QT M' Q' v h' → GT p l e R s m args below meth c D cA A ad ce sl Qe M.2.2.1 (pc + 3) lv (v.toList ++ st) h') : GT p l e R s m args below meth c D cA A ad ce sl Qe M.2.2.1 pc lv st0 h := by
  subst hst
  intro H locs ls hP hD hS hl
  refine g_after (rest := st.map (tr ad)) (va_runS (As := as.map (tr ad)) (rest := st.map (tr ad)) ⟨C.1, C.2.1, C.2.2.1, C.2.2.2.1, C.2.2.2.2.1⟩ (hc l D cA tys A ad C.2.2.2.2.2.2.2.2.1) (g_cwS C.2.2.2.2.1 hM hlk hR) ⟨RPc.blind, fun U hU hW => rt_pre C hP hD hS hU hW⟩ rfl (by simpa using hn) hl.1.1 (by simp) (lv_room (Nat.le_trans (stw_le ad st) (Nat.le_of_ble_eq_true hw))) hd ⟨hce.1, hce.2⟩) hS (fun v h' H1 locs1 hq hP1 hD1 hS1 => ?_)
  rw [tr_list]
  exact k v h' hq H1 locs1 ls hP1 hD1 hS1 hl
end GTR
