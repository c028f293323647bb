/-! ===== the launch as the proof needs it; the first cells ===== -/
theorem cl_L_8 : Cond.classLink RL 8 (cR 7) ∈ rt_tbl := in_rt (List.mem_of_getElem? (i := 135) (by decide +kernel)) (by decide +kernel)
theorem cl_L_16 : Cond.classLink RL 16 (cR 8) ∈ rt_tbl := in_rt (List.mem_of_getElem? (i := 1136) (by decide +kernel)) (by decide +kernel)
def nsAll : List Cond := (nsL ++ nsC).map fun q => Cond.methodLinkNest q.1 q.2.1 q.2.2 "RingWaters"
theorem ns_in : (nsAll.all fun w => decide (w ∈ lw_tbl)) = true := by decide +kernel
def stAll : List Cond := [.laysStatic "java/lang/String" "COMPACT_STRINGS" "Z", .laysStatic "jdk/internal/util/Preconditions" "SIOOBE_FORMATTER" "Ljava/util/function/BiFunction;", .laysStatic Bundle.tN "UNASSIGNED_STACK" Bundle.steD, .laysStatic Bundle.tN "SUPPRESSED_SENTINEL" Bundle.listD, .initialized "java/lang/String", .initialized "jdk/internal/util/Preconditions", .initialized Bundle.tN]
theorem st_in : (stAll.all fun w => decide (w ∈ lw_tbl)) = true := by decide +kernel
def tmS (i : Nat) : Term := .string "RingWatersModel" (strI.getD i 0)
theorem sr_in : ∀ i, i < 6 → Cond.stringRef "RingWatersModel" (strI.getD i 0) (strT.getD i "") ∈ lw_tbl := by decide +kernel
abbrev nrw : List Cond := flatC (Jvm.Cond.and given_1 narrow_1)
theorem nr_ex : ∀ i, i < 6 → Cond.exactly (tmS i) "java/lang/String" ∈ nrw := by decide +kernel
theorem nr_co : ∀ i, i < 6 → Cond.eq (.field (tmS i) "java/lang/String" "coder" "B") (.int 0) ∈ nrw := by decide +kernel
theorem nr_ar : ∀ i, i < 6 → Cond.arrayOf (.field (tmS i) "java/lang/String" "value" "[B") .byte ∈ nrw := by decide +kernel
theorem nr_le : ∀ i, i < 6 → Cond.eq (.length (.field (tmS i) "java/lang/String" "value" "[B")) (.int (Int32.ofNat (strN.getD i 0))) ∈ nrw := by decide +kernel
theorem nr_el : ∀ i, i < 6 → ∀ j, j < strN.getD i 0 → Cond.eq (.elem (.field (tmS i) "java/lang/String" "value" "[B") (.int (Int32.ofNat j))) (.int ((strB.getD i []).getD j 0)) ∈ nrw := by decide +kernel
theorem nr_ne : ∀ i, i < 6 → ∀ j, j < 6 → i ≠ j → (Cond.not (Cond.eq (tmS i) (tmS j)) ∈ nrw ∨ Cond.not (Cond.eq (tmS j) (tmS i)) ∈ nrw) := by decide +kernel
def nrAll : List Cond := [.eq (.static "java/lang/String" "COMPACT_STRINGS" "Z") (.int 1), .isRef (.static "jdk/internal/util/Preconditions" "SIOOBE_FORMATTER" "Ljava/util/function/BiFunction;"), .isRef (.static Bundle.tN "UNASSIGNED_STACK" Bundle.steD), .isRef (.static Bundle.tN "SUPPRESSED_SENTINEL" Bundle.listD)]
theorem nr_in : (nrAll.all fun w => decide (w ∈ nrw)) = true := by decide +kernel
theorem shp_ty {o n : Nat} {ty : FieldType} (h : shp o = some (.inr (ty, n))) : ty = .int ∨ ty = .long ∨ ty = .byte ∨ ty = .boolean := by
  have h1 : (shpL.all fun x => match x with | .inl _ => true | .inr (ty, _) => match ty with | .int => true | .long => true | .byte => true | .boolean => true | _ => false) = true := by decide +kernel
  have h2 := List.all_eq_true.mp h1 _ (List.mem_of_getElem? h)
  revert h2
  cases ty <;> simp
theorem e_str {args : Array Value} {s : State} (hts : ∀ w ∈ lw_tbl, w.before args s = true) (hgv : (Jvm.Cond.and given_1 narrow_1).before args s = true) {A : Nat → Prop} (hA : ∀ a : Nat, a < s.heap.size → ¬ A a) : ∃ (adK adV : Nat → Nat) (t4 : Nat), vk_S 6 strN strB adK adV A s s.heap ∧ (∀ i : Nat, i < 6 → vk_R "RingWatersModel" (strI.getD i 0) (strT.getD i "") (adK i) s) ∧ va_Z "java/lang/String" "COMPACT_STRINGS" "Z" (.int 1) A s s.heap ∧ (va_Z "jdk/internal/util/Preconditions" "SIOOBE_FORMATTER" "Ljava/util/function/BiFunction;" .null A s s.heap ∨ va_Z "jdk/internal/util/Preconditions" "SIOOBE_FORMATTER" "Ljava/util/function/BiFunction;" (.ref t4) A s s.heap) := by
  have hs := flat_of_before _ hgv
  have ht : ∀ w ∈ stAll, w.before args s = true := fun w hw => hts w (of_decide_eq_true (List.all_eq_true.mp st_in w hw))
  have hn : ∀ w ∈ nrAll, w.before args s = true := fun w hw => hs w (of_decide_eq_true (List.all_eq_true.mp nr_in w hw))
  obtain ⟨adK, adV, hS, hev⟩ := vk_Sof (args := args) (s := s) (N := 6) (tm := tmS) (len := strN) (byt := strB) (A := A) (by decide +kernel) (fun i hi => hs _ (nr_ex i hi)) (fun i hi => hs _ (nr_co i hi)) (fun i hi => hs _ (nr_ar i hi)) (fun i hi => hs _ (nr_le i hi)) (fun i hi j hj => hs _ (nr_el i hi j hj)) (fun i j hi hj hij => (nr_ne i hi j hj hij).imp (fun h => hs _ h) (fun h => hs _ h)) hA
  have hR : ∀ i : Nat, i < 6 → vk_R "RingWatersModel" (strI.getD i 0) (strT.getD i "") (adK i) s := fun i hi => vk_R.of (A := args) (hts _ (sr_in i hi)) (hev i hi)
  have hC : va_Z "java/lang/String" "COMPACT_STRINGS" "Z" (.int 1) A s s.heap := va_Zof (ht _ (List.mem_of_getElem? (i := 0) rfl)) (ht _ (List.mem_of_getElem? (i := 4) rfl)) (va_eqt (hn _ (List.mem_of_getElem? (i := 0) rfl))) hA
  have hQ : va_Zq "jdk/internal/util/Preconditions" "SIOOBE_FORMATTER" "Ljava/util/function/BiFunction;" A s s.heap := va_Zqof (ht _ (List.mem_of_getElem? (i := 1) rfl)) (ht _ (List.mem_of_getElem? (i := 5) rfl)) (hn _ (List.mem_of_getElem? (i := 1) rfl)) hA
  rcases hQ with h | ⟨t, h⟩
  · exact ⟨adK, adV, 0, hS, hR, hC, Or.inl h⟩
  · exact ⟨adK, adV, t, hS, hR, hC, Or.inr h⟩
theorem e_xe {args : Array Value} {s : State} (hts : ∀ w ∈ lw_tbl, w.before args s = true) (hgv : (Jvm.Cond.and given_1 narrow_1).before args s = true) {A : Nat → Prop} (hA : ∀ a : Nat, a < s.heap.size → ¬ A a) : XE A s := by
  have hs := flat_of_before _ hgv
  have ht : ∀ w ∈ stAll, w.before args s = true := fun w hw => hts w (of_decide_eq_true (List.all_eq_true.mp st_in w hw))
  have hn : ∀ w ∈ nrAll, w.before args s = true := fun w hw => hs w (of_decide_eq_true (List.all_eq_true.mp nr_in w hw))
  refine ⟨fun w hw => va_Nw.of (nseW_on hw) (hts w (of_decide_eq_true (List.all_eq_true.mp at0_in w (List.mem_filter.mp hw).1))), ?_, ?_⟩
  · exact vx_Zqof (ht _ (List.mem_of_getElem? (i := 2) rfl)) (ht _ (List.mem_of_getElem? (i := 6) rfl)) (hn _ (List.mem_of_getElem? (i := 2) rfl)) hA
  · exact vx_Zqof (ht _ (List.mem_of_getElem? (i := 3) rfl)) (ht _ (List.mem_of_getElem? (i := 6) rfl)) (hn _ (List.mem_of_getElem? (i := 3) rfl)) hA
theorem e_ns {args : Array Value} {s : State} (hts : ∀ w ∈ lw_tbl, w.before args s = true) {q : String × Nat × MethodName} (hq : q ∈ nsL ++ nsC) : va_Nw (.methodLinkNest q.1 q.2.1 q.2.2 "RingWaters") s :=
  va_Nw.of (A := args) rfl (hts _ (of_decide_eq_true (List.all_eq_true.mp ns_in _ (List.mem_map.mpr ⟨q, hq, rfl⟩))))
theorem e_arr {args : Array Value} {s : State} {ty : FieldType} (h : (Cond.arrayClass ty).before args s = true) : ∃ cA : ClassId, ArrOfT s cA ty ∧ s.vm.findClass ("[" ++ ty.toString) = some cA := by
  obtain ⟨cA, kA, comp, h1, h2, h3⟩ := Cond.arrayClass_spec h
  exact ⟨cA, fun n z => ⟨fun k h => (by cases h), kA, h2, comp, h3⟩, h1⟩
theorem in_all : ∀ ci, ci < 9 → Cond.instantiable (cR ci) (nfl ci) ∈ rt_tbl := by
  intro ci h
  rcases (show ci = 0 ∨ ci = 1 ∨ ci = 2 ∨ ci = 3 ∨ ci = 4 ∨ ci = 5 ∨ ci = 6 ∨ ci = 7 ∨ ci = 8 by omega) with rfl | rfl | rfl | rfl | rfl | rfl | rfl | rfl | rfl
  · exact in_X0.1
  · exact in_X1.1
  · exact in_X2.1
  · exact in_X3.1
  · exact in_X4.1
  · exact in_X5.1
  · exact in_X6.1
  · exact in_X7.1
  · exact in_X8.1
theorem e_kn {args : Array Value} {s : State} (ht : ∀ w ∈ rt_tbl, w.before args s = true) : ∃ (D : va_G) (cA : Nat → ClassId) (tys : List (ClassId × FieldType)), va_K D vwCl tys s ∧ RTy cA tys := by
  have h0 : ∀ ci : Nat, ∃ q : ClassId × (Nat → Nat), ci < 9 → u_Kn s (cR ci) (cT ci) (nfl ci) q.1 q.2 := by
    intro ci
    by_cases h : ci < 9
    · obtain ⟨cC, iS, hk⟩ := u_known (C := cR ci) (T := cT ci) (N := nfl ci) (n := nfl ci) ht (in_tbl h) (ht _ (in_all ci h))
      exact ⟨(cC, iS), fun _ => hk⟩
    · exact ⟨(0, fun _ => 0), fun h' => absurd h' h⟩
  obtain ⟨f, hf⟩ := Classical.axiomOfChoice h0
  obtain ⟨cI, aI, bI⟩ := e_arr (ht _ ar_int)
  obtain ⟨cL, aL, bL⟩ := e_arr (ht _ ar_long)
  obtain ⟨cB, aB, bB⟩ := e_arr (ht _ ar_byte)
  obtain ⟨cZ, aZ, bZ⟩ := e_arr (ht _ ar_boolean)
  refine ⟨(fun c => (f c).1, fun c => (f c).2), fun o => match shp o with | some (.inr (.int, _)) => cI | some (.inr (.long, _)) => cL | some (.inr (.byte, _)) => cB | _ => cZ, [(cI, .int), (cL, .long), (cB, .byte), (cZ, .boolean)], ⟨fun c q hq => ?_, fun k q hq => ?_⟩, fun o ty n hs => ?_⟩
  · have hc : c < 9 := (List.getElem?_eq_some_iff.mp hq).1
    rw [vwCl_at hc] at hq
    cases hq
    exact hf c hc
  · match k, hq with
    | 0, hq => cases hq; exact ⟨aI, bI⟩
    | 1, hq => cases hq; exact ⟨aL, bL⟩
    | 2, hq => cases hq; exact ⟨aB, bB⟩
    | 3, hq => cases hq; exact ⟨aZ, bZ⟩
    | k + 4, hq => simp at hq
  · rcases shp_ty hs with rfl | rfl | rfl | rfl
    · exact ⟨0, by simp only [hs] <;> rfl⟩
    · exact ⟨1, by simp only [hs] <;> rfl⟩
    · exact ⟨2, by simp only [hs] <;> rfl⟩
    · exact ⟨3, by simp only [hs] <;> rfl⟩
theorem e_ad (z b t4 : Nat) (adK adV : Nat → Nat) : ∃ ad : Nat → Nat, (∀ o, o < 100 → ad o = z + o) ∧ (∀ i, i < 6 → ad (2000 + i) = adK i) ∧ (∀ i, i < 6 → ad (3000 + i) = adV i) ∧ ad 4000 = t4 ∧ ad 5000 = b := by
  refine ⟨fun o => if o < 100 then z + o else if o < 3000 then adK (o - 2000) else if o < 4000 then adV (o - 3000) else if o = 4000 then t4 else b, fun o ho => if_pos ho, fun i hi => ?_, fun i hi => ?_, ?_, ?_⟩
  · show (if 2000 + i < 100 then _ else if 2000 + i < 3000 then _ else _) = _
    rw [if_neg (by omega), if_pos (by omega), Nat.add_sub_cancel_left]
  · show (if 3000 + i < 100 then _ else if 3000 + i < 3000 then _ else if 3000 + i < 4000 then _ else _) = _
    rw [if_neg (by omega), if_neg (by omega), if_pos (by omega), Nat.add_sub_cancel_left]
  · first | rfl | simp
  · first | rfl | simp
/-- o cells are laid, as they stay -/
def LF (D : va_G) (cA : Nat → ClassId) (ad : Nat → Nat) (o : Nat) (H : Heap) : Prop := H.size = ad 0 + o ∧ ∀ k, k < o → va_at D vwCl (ad k, cellE ad cA hp0 k) H
theorem LF.P {D : va_G} {cA : Nat → ClassId} {ad : Nat → Nat} {H : Heap} (h : LF D cA ad 100 H) : va_P D vwCl (wld ad cA hp0) H := by
  intro k q hq
  have hk : k < 100 := by
    have := (List.getElem?_eq_some_iff.mp hq).1
    simpa [wld] using this
  rw [wld_get hk] at hq
  cases hq
  exact h.2 k hk
theorem LF.D {cA : Nat → ClassId} {A : Nat → Prop} {ad : Nat → Nat} (hb : adOK ad) (hA : ∀ q, ad 0 ≤ q → A q) : va_D A (wld ad cA hp0) := by
  have lt : ∀ (k : Nat) (q : Nat × va_E), (wld ad cA hp0)[k]? = some q → k < 100 ∧ q.1 = ad 0 + k := fun k q hq => by
    have hk : k < 100 := by
      have := (List.getElem?_eq_some_iff.mp hq).1
      simpa [wld] using this
    rw [wld_get hk] at hq
    cases hq
    exact ⟨hk, hb k hk⟩
  refine ⟨fun i j p q hi hj e => ?_, fun k q hq => hA _ ?_⟩
  · have h1 := (lt i p hi).2
    have h2 := (lt j q hj).2
    omega
  · have := (lt k q hq).2
    omega

