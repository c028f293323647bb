/-! ===== RT: a run over the pure heap, over every launch, state and heap that holds it ===== -/
def strI : List Nat := [158, 164, 166, 168, 170, 172]
def strT : List String := ["well", "joint", "at", "pipe", "check", "pump"]
def strB : List (List Int32) := [[119, 101, 108, 108], [106, 111, 105, 110, 116], [97, 116], [112, 105, 112, 101], [99, 104, 101, 99, 107], [112, 117, 109, 112]]
def strN : List Nat := [4, 5, 2, 4, 5, 4]
def nsL : List (String × Nat × MethodName) := [(RX5, 50, yX7_bit), (RX4, 36, yX7_bit), (RX6, 197, yX7_bit), (RX1, 29, yX7_bit)]
def siE (ad : Nat → Nat) (A : Nat → Prop) (s : State) (H : Heap) : Prop := va_Z "jdk/internal/util/Preconditions" "SIOOBE_FORMATTER" "Ljava/util/function/BiFunction;" .null A s H ∨ va_Z "jdk/internal/util/Preconditions" "SIOOBE_FORMATTER" "Ljava/util/function/BiFunction;" (.ref (ad 4000)) A s H
theorem siE.moved {ad : Nat → Nat} {A : Nat → Prop} {s U : State} {H : Heap} (h : siE ad A s H) (hvm : s.vm.Alike U.vm) : siE ad A U H := by
  rcases h with h | h
  · exact Or.inl (h.moved hvm)
  · exact Or.inr (h.moved hvm)
theorem siE.kept {ad : Nat → Nat} {A : Nat → Prop} {s : State} {H H1 : Heap} (h : siE ad A s H) (hq : ∀ a : Nat, a < H.size → ¬ A a → H1[a]? = H[a]?) : siE ad A s H1 := by
  rcases h with h | h
  · exact Or.inl (h.kept hq)
  · exact Or.inr (h.kept hq)
def strE (ad : Nat → Nat) (A : Nat → Prop) (s : State) : Prop := vk_S 6 strN strB (fun i => ad (2000 + i)) (fun i => ad (3000 + i)) A s s.heap ∧ (∀ i : Nat, i < 6 → vk_R "RingWatersModel" (strI.getD i 0) (strT.getD i "") (ad (2000 + i)) s) ∧ (va_Z "java/lang/String" "COMPACT_STRINGS" "Z" (.int 1) A s s.heap ∧ siE ad A s s.heap) ∧ ∀ q ∈ nsL, va_Nw (.methodLinkNest q.1 q.2.1 q.2.2 "RingWaters") s
theorem strE.move {ad : Nat → Nat} {A : Nat → Prop} {s U : State} (h : strE ad A s) (hW : s.WarmedH U.vm) (hq : ∀ a : Nat, a < s.heap.size → ¬ A a → U.heap[a]? = s.heap[a]?) : strE ad A U :=
  ⟨(h.1.moved hW.alike).kept hq, fun i hi => (h.2.1 i hi).warm hW, ⟨(h.2.2.1.1.moved hW.alike).kept hq, (h.2.2.1.2.moved hW.alike).kept hq⟩, fun q hn => (h.2.2.2 q hn).warmM hW⟩
theorem strE.same {ad : Nat → Nat} {A : Nat → Prop} {s U : State} (h : strE ad A s) (hv : U.vm = s.vm) (hh : U.heap = s.heap) : strE ad A U := by
  refine ⟨?_, fun i hi => (h.2.1 i hi).same hv, ⟨?_, ?_⟩, fun q hn => (h.2.2.2 q hn).same rfl hv.symm⟩
  · rw [hh]; exact h.1.moved (by rw [hv]; exact Vm.Alike.refl _)
  · rw [hh]; exact h.2.2.1.1.moved (by rw [hv]; exact Vm.Alike.refl _)
  · rw [hh]; exact h.2.2.1.2.moved (by rw [hv]; exact Vm.Alike.refl _)
def lpairs (ad : Nat → Nat) (lv : List (Option Value)) : List (Nat × Value) := (List.range lv.length).filterMap fun i => match lv[i]? with | some (some v) => some (i, tr ad v) | _ => none
theorem mem_lpairs {ad : Nat → Nat} {lv : List (Option Value)} {i : Nat} {w : Value} : (i, w) ∈ lpairs ad lv ↔ ∃ v, lv[i]? = some (some v) ∧ w = tr ad v := by
  unfold lpairs
  rw [List.mem_filterMap]
  constructor
  · rintro ⟨j, hj, h⟩
    split at h
    · next v hv => cases h; exact ⟨v, hv, rfl⟩
    · cases h
  · rintro ⟨v, hv, rfl⟩
    refine ⟨i, List.mem_range.mpr (List.getElem?_eq_some_iff.mp hv).1, ?_⟩
    rw [hv]
def LH (ad : Nat → Nat) (ls : Array Slot) (nL : Nat) (lv : List (Option Value)) : Prop := lv_has ls nL (lpairs ad lv) ∧ lv.length = nL
theorem LH.get {ad : Nat → Nat} {ls : Array Slot} {nL : Nat} {lv : List (Option Value)} (h : LH ad ls nL lv) {i : Nat} {v : Value} (hv : lv[i]? = some (some v)) : ls[i]? = some (.val (tr ad v)) := h.1.2.2 (i, tr ad v) (mem_lpairs.mpr ⟨v, hv, rfl⟩)
/-- no long just before place i -/
def nlg (lv : List (Option Value)) (i : Nat) : Bool := match i with | 0 => true | j + 1 => match lv[j]? with | some (some (.long _)) => false | _ => true
theorem tr_cat2 {ad : Nat → Nat} {v : Value} (h : (tr ad v).category = 2) : ∃ x, v = .long x := by
  cases v <;> simp [tr, Value.category] at h ⊢
theorem LH.to1 {ad : Nat → Nat} {ls : Array Slot} {nL : Nat} {lv : List (Option Value)} {i : Nat} {v : Value} (hlen : lv.length = nL) (hi : i < nL) (hn : nlg lv i = true) (h : lv_has ls nL ((i, tr ad v) :: (lpairs ad lv).filter (fun q => !(q.1 == i) && !(q.1 + 1 == i && q.2.category == 2)))) : LH ad ls nL (lv.set i (some v)) := by
  refine ⟨⟨h.1, h.2.1, fun q hq => ?_⟩, by simpa using hlen⟩
  obtain ⟨j, w⟩ := q
  obtain ⟨u, hu, rfl⟩ := mem_lpairs.mp hq
  by_cases e : j = i
  · subst e
    rw [List.getElem?_set_self (by omega)] at hu
    cases hu
    exact h.2.2 _ List.mem_cons_self
  · rw [List.getElem?_set_ne (Ne.symm e)] at hu
    refine h.2.2 (j, tr ad u) (List.mem_cons_of_mem _ (List.mem_filter.mpr ⟨mem_lpairs.mpr ⟨u, hu, rfl⟩, ?_⟩))
    simp only [Bool.and_eq_true, Bool.not_eq_true', beq_eq_false_iff_ne, ne_eq, Bool.and_eq_false_iff]
    refine ⟨e, ?_⟩
    by_cases e2 : j + 1 = i
    · right
      intro hc
      obtain ⟨x, rfl⟩ := tr_cat2 hc
      subst e2
      simp [nlg, hu] at hn
    · exact Or.inl e2
theorem LH.to2 {ad : Nat → Nat} {ls : Array Slot} {nL : Nat} {lv : List (Option Value)} {i : Nat} {v : Value} (hlen : lv.length = nL) (hi : i + 1 < nL) (hn : nlg lv i = true) (h : lv_has ls nL ((i, tr ad v) :: (lpairs ad lv).filter (fun q => !(q.1 == i) && (!(q.1 == i + 1) && !(q.1 + 1 == i && q.2.category == 2))))) : LH ad ls nL ((lv.set i (some v)).set (i + 1) none) := by
  refine ⟨⟨h.1, h.2.1, fun q hq => ?_⟩, by simpa using hlen⟩
  obtain ⟨j, w⟩ := q
  obtain ⟨u, hu, rfl⟩ := mem_lpairs.mp hq
  by_cases e1 : j = i + 1
  · subst e1
    rw [List.getElem?_set_self (by simp; omega)] at hu
    cases hu
  · rw [List.getElem?_set_ne (Ne.symm e1)] at hu
    by_cases e : j = i
    · subst e
      rw [List.getElem?_set_self (by omega)] at hu
      cases hu
      exact h.2.2 _ List.mem_cons_self
    · rw [List.getElem?_set_ne (Ne.symm e)] at hu
      refine h.2.2 (j, tr ad u) (List.mem_cons_of_mem _ (List.mem_filter.mpr ⟨mem_lpairs.mpr ⟨u, hu, rfl⟩, ?_⟩))
      simp only [Bool.and_eq_true, Bool.not_eq_true', beq_eq_false_iff_ne, ne_eq, Bool.and_eq_false_iff]
      refine ⟨e, e1, ?_⟩
      by_cases e2 : j + 1 = i
      · right
        intro hc
        obtain ⟨x, rfl⟩ := tr_cat2 hc
        subst e2
        simp [nlg, hu] at hn
      · exact Or.inl e2
/-- fewer known locals -/
def lsub : List (Option Value) → List (Option Value) → Prop
  | [], [] => True
  | a :: r, b :: q => (b = none ∨ a = b) ∧ lsub r q
  | _, _ => False
theorem lsub_get : ∀ {l l' : List (Option Value)}, lsub l l' → l.length = l'.length ∧ ∀ (i : Nat) (v : Value), l'[i]? = some (some v) → l[i]? = some (some v)
  | [], [], _ => ⟨rfl, fun _ _ h => h⟩
  | a :: r, b :: q, h => by
    obtain ⟨h1, h2⟩ := h
    obtain ⟨g1, g2⟩ := lsub_get h2
    refine ⟨by simp [g1], fun i v hv => ?_⟩
    cases i with
    | zero =>
      simp at hv
      subst hv
      rcases h1 with h1 | h1
      · cases h1
      · simp [h1]
    | succ i => simpa using g2 i v (by simpa using hv)
  | [], _ :: _, h => h.elim
  | _ :: _, [], h => h.elim
def rtR (dp : Nat) : Room := { frames := dp, cells := 0, slots := 0, locals := 34 * dp }
def rt_ws (M : MI) : List Cond := Cond.code M.1 M.2.1 M.2.2.1 M.2.2.2 :: rt_tbl
def RTy (cA : Nat → ClassId) (tys : List (ClassId × FieldType)) : Prop := ∀ (o : Nat) (ty : FieldType) (n : Nat), shp o = some (.inr (ty, n)) → ∃ t0 : Nat, tys[t0]? = some (cA o, ty)
def RCx (M : MI) (p : Program) (s : State) (m : MethodId) (args : Array Value) (meth : Method) (c : Code) (D : va_G) (cA : Nat → ClassId) (tys : List (ClassId × FieldType)) (A : Nat → Prop) (ad : Nat → Nat) : Prop :=
  p.tables.exec = Jvm.exec ∧ c.code = M.2.1 ∧ c.maxLocals = M.2.2.1 ∧ s.vm.findClass M.1.cls = some m.cls ∧ (∀ w ∈ rt_tbl, w.before args s = true) ∧ meth.sig.returnType = M.2.2.2 ∧ meth.locks = false ∧ va_K D vwCl tys s ∧ RTy cA tys ∧ strE ad A s
def RQ (D : va_G) (cA : Nat → ClassId) (A : Nat → Prop) (ad : Nat → Nat) (Q : Option Value → PH → Prop) : Array Value → State → Outcome → State → Prop := fun _ st oc t =>
  (∃ (v : Option Value) (h' : PH), oc = .returned (v.map (tr ad)) ∧ Q v h' ∧ va_P D vwCl (wld ad cA h') t.heap ∧ va_D A (wld ad cA h')) ∧ va_F A st t
/-- an answer is of the method's kind -/
def rtOK (r : Option FieldType) (v : Option Value) : Prop := (r = some .int → ∃ x, v = some (.int x)) ∧ (r = some .long → ∃ x, v = some (.long x))
def QT (M : MI) (Q : Option Value → PH → Prop) : Option Value → PH → Prop := fun v h' => Q v h' ∧ rtOK M.2.2.2 v
theorem rtOK_i {r : Option FieldType} {x : Int32} (h : r ≠ some .long) : rtOK r (some (.int x)) := ⟨fun _ => ⟨x, rfl⟩, fun e => absurd e h⟩
theorem rtOK_l {x : Int64} : rtOK (some .long) (some (.long x)) := ⟨(fun e => by cases e), fun _ => ⟨x, rfl⟩⟩
theorem rtOK_n : rtOK none none := ⟨(fun e => by cases e), (fun e => by cases e)⟩
def RPc (D : va_G) (cA : Nat → ClassId) (tys : List (ClassId × FieldType)) (A : Nat → Prop) (ad : Nat → Nat) (as : List Value) (h : PH) : Array Value → State → Prop := fun v U =>
  v = (as.map (tr ad)).toArray ∧ va_P D vwCl (wld ad cA h) U.heap ∧ va_D A (wld ad cA h) ∧ va_K D vwCl tys U ∧ strE ad A U
theorem RPc.blind {D : va_G} {cA : Nat → ClassId} {tys : List (ClassId × FieldType)} {A : Nat → Prop} {ad : Nat → Nat} {as : List Value} {h : PH} : FrameBlind (RPc D cA tys A ad as h) := by
  intro a U g mk q
  obtain ⟨q0, qP, qD, qK, qE⟩ := q
  exact ⟨q0, qP, qD, va_K.moved (u := U) (U := U.calling g mk a) (Vm.Alike.refl U.vm) qK, qE.same rfl rfl⟩
def RT (M : MI) (dp : Nat) (pc : Nat) (lv : List (Option Value)) (st : List Value) (h : PH) (Q : Option Value → PH → Prop) : Prop :=
  ∀ (p : Program) (l : Launch) (e : Env) (s : State) (m : MethodId) (args : Array Value) (below : List Frame) (meth : Method) (c : Code) (D : va_G) (cA : Nat → ClassId) (tys : List (ClassId × FieldType)) (A : Nat → Prop) (ad : Nat → Nat) (H : Heap) (locs : List Loc) (ls : Array Slot),
    RCx M p s m args meth c D cA tys A ad → va_P D vwCl (wld ad cA h) H → va_D A (wld ad cA h) → va_S A s.heap H locs → LH ad ls M.2.2.1 lv →
    W p l e (rtR dp) s m args below meth c H locs 0 0 (MQ below (RQ D cA A ad (QT M Q)) args s 0 0 A) (F0 m pc ls (st.map (tr ad)))
/-- a method's contract over the pure heap -/
def Con (M : MI) (dp : Nat) (as : List Value) (h : PH) (Q : Option Value → PH → Prop) : Prop :=
  ∀ (l : Launch) (D : va_G) (cA : Nat → ClassId) (tys : List (ClassId × FieldType)) (A : Nat → Prop) (ad : Nat → Nat), RTy cA tys → Met l M.1 (rt_ws M) (rtR dp) (RPc D cA tys A ad as h) (RQ D cA A ad (QT M Q)) 0 0 A

def lvE : List Value → Nat → List (Option Value)
  | [], n => List.replicate n none
  | .long x :: r, n => some (.long x) :: none :: lvE r (n - 2)
  | v :: r, n => some v :: lvE r (n - 1)

theorem lv_args_c1 {i : Nat} {v : Value} {r : List Value} (h : v.category = 1) : lv_args i (v :: r) = (i, v) :: lv_args (i + 1) r := by
  cases v <;> simp [lv_args, Value.category] at h ⊢
theorem lvE_get (ad : Nat → Nat) : ∀ (as : List Value) (n i : Nat), (∀ v ∈ as, (∃ x, v = .int x) ∨ (∃ x, v = .long x) ∨ ∃ x, v = .ref x) → ∀ (j : Nat) (v : Value), (lvE as n)[j]? = some (some v) → (i + j, tr ad v) ∈ lv_args i (as.map (tr ad))
  | [], n, i, _, j, v, h => by
    simp only [lvE] at h
    rw [List.getElem?_replicate] at h
    split at h <;> simp at h
  | a :: r, n, i, ha, j, v, h => by
    have hr : ∀ v ∈ r, (∃ x, v = .int x) ∨ (∃ x, v = .long x) ∨ ∃ x, v = .ref x := fun v hv => ha v (List.mem_cons_of_mem _ hv)
    rcases ha a List.mem_cons_self with ⟨x, rfl⟩ | ⟨x, rfl⟩ | ⟨x, rfl⟩
    · show (i + j, tr ad v) ∈ (i, Value.int x) :: lv_args (i + 1) (r.map (tr ad))
      cases j with
      | zero => simp [lvE] at h; subst h; exact List.mem_cons_self
      | succ j =>
        refine List.mem_cons_of_mem _ ?_
        have := lvE_get ad r (n - 1) (i + 1) hr j v (by simpa [lvE] using h)
        rwa [show i + 1 + j = i + (j + 1) by omega] at this
    · show (i + j, tr ad v) ∈ (i, Value.long x) :: lv_args (i + 2) (r.map (tr ad))
      match j with
      | 0 => simp [lvE] at h; subst h; exact List.mem_cons_self
      | 1 => simp [lvE] at h
      | j + 2 =>
        refine List.mem_cons_of_mem _ ?_
        have := lvE_get ad r (n - 2) (i + 2) hr j v (by simpa [lvE] using h)
        rwa [show i + 2 + j = i + (j + 2) by omega] at this
    · show (i + j, tr ad v) ∈ (i, Value.ref (ad x)) :: lv_args (i + 1) (r.map (tr ad))
      cases j with
      | zero => simp [lvE] at h; subst h; exact List.mem_cons_self
      | succ j =>
        refine List.mem_cons_of_mem _ ?_
        have := lvE_get ad r (n - 1) (i + 1) hr j v (by simpa [lvE] using h)
        rwa [show i + 1 + j = i + (j + 1) by omega] at this

