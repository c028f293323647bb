/-! ===== named(): what is thrown ===== -/
def nseN : String := "java/util/NoSuchElementException"
def nseC : List String := ["java/lang/RuntimeException", "java/lang/Exception"]
theorem at0_in : ((vx_at0 RX7 324 nseN nseC).all fun w => decide (w ∈ lw_tbl)) = true := by decide +kernel
theorem at0_ot : ((vx_at0 RX7 324 nseN nseC).all vx_ot) = true := by decide +kernel
def nseW : List Cond := (vx_at0 RX7 324 nseN nseC).filter (fun w => !goodWord w)
def isCast (w : Cond) : Bool := match w with | .castable _ _ => true | .declares _ => true | _ => false
theorem nseW_cast : (nseW.all isCast) = true := by decide +kernel
theorem nseW_self : Cond.castable nseN nseN ∈ nseW := by decide +kernel
theorem nse_cl : Cond.classLink RX7 322 nseN ∈ rt_tbl := in_rt (List.mem_of_getElem? (i := 1075) (by decide +kernel)) (by decide +kernel)
theorem nse_clL : Cond.classLink RL 13 nseN ∈ rt_tbl := in_rt (List.mem_of_getElem? (i := 1066) (by decide +kernel)) (by decide +kernel)
theorem nse_in : Cond.initialized nseN ∈ rt_tbl := in_rt (List.mem_of_getElem? (i := 134) (by decide +kernel)) (by decide +kernel)
theorem nseW_ex {w : Cond} (h : w ∈ nseW) : (∃ C T, w = .castable C T) ∨ ∃ x, w = .declares x := by
  have h1 := List.all_eq_true.mp nseW_cast w h
  unfold isCast at h1
  split at h1
  · exact Or.inl ⟨_, _, rfl⟩
  · exact Or.inr ⟨_, rfl⟩
  · cases h1
theorem nseW_on {w : Cond} (h : w ∈ nseW) : w.onTables = true := by
  rcases nseW_ex h with ⟨C, T, rfl⟩ | ⟨x, rfl⟩ <;> rfl
/-- what a throw needs of the launch's tables and statics -/
def XE (A : Nat → Prop) (s : State) : Prop := (∀ w ∈ nseW, va_Nw w s) ∧ vx_Zq Bundle.tN "UNASSIGNED_STACK" Bundle.steD A s s.heap ∧ vx_Zq Bundle.tN "SUPPRESSED_SENTINEL" Bundle.listD A s s.heap
theorem XE.move {A : Nat → Prop} {s U : State} (h : XE A s) (hW : s.WarmedH U.vm) (hq : ∀ a : Nat, a < s.heap.size → ¬ A a → U.heap[a]? = s.heap[a]?) : XE A U := by
  refine ⟨fun w hw => ?_, (h.2.1.moved hW.alike).kept hq, (h.2.2.moved hW.alike).kept hq⟩
  rcases nseW_ex hw with ⟨C, T, rfl⟩ | ⟨x, rfl⟩
  · exact (h.1 _ hw).warmC hW
  · exact (h.1 _ hw).warmD hW
theorem XE.same {A : Nat → Prop} {s U : State} (h : XE A s) (hv : U.vm = s.vm) (hh : U.heap = s.heap) : XE A U := by
  refine ⟨fun w hw => (h.1 w hw).same (nseW_on hw) hv.symm, ?_, ?_⟩
  · rw [hh]; exact h.2.1.moved (by rw [hv]; exact Vm.Alike.refl _)
  · rw [hh]; exact h.2.2.moved (by rw [hv]; exact Vm.Alike.refl _)
theorem at0_hat {A : Nat → Prop} {args : Array Value} {s : State} (ht : ∀ w ∈ rt_tbl, w.before args s = true) (x : XE A s) : ∀ w ∈ vx_at0 RX7 324 nseN nseC, w.before args s = true := by
  intro w hw
  have hin : w ∈ lw_tbl := of_decide_eq_true (List.all_eq_true.mp at0_in w hw)
  cases hg : goodWord w
  · have hn : w ∈ nseW := List.mem_filter.mpr ⟨hw, by rw [hg]; rfl⟩
    exact va_Nw.use (nseW_on hn) (x.1 w hn)
  · exact ht w (in_rt hin hg)
def XPc (D : va_G) (cA : Nat → ClassId) (tys : List (ClassId × FieldType)) (A : Nat → Prop) (ad : Nat → Nat) (as : List Value) (h : PH) : Array Value → State → Prop := fun v U => RPc D cA tys A ad as h v U ∧ XE A U
theorem XPc.blind {D : va_G} {cA : Nat → ClassId} {tys : List (ClassId × FieldType)} {A : Nat → Prop} {ad : Nat → Nat} {as : List Value} {h : PH} : FrameBlind (XPc D cA tys A ad as h) := by
  intro a U g mk q
  exact ⟨RPc.blind a U g mk q.1, q.2.same rfl rfl⟩
/-- what is left where NoSuchElementException is thrown -/
def XXC (D : va_G) (cA : Nat → ClassId) (A : Nat → Prop) (ad : Nat → Nat) (h : PH) : String → State → State → Prop := fun E st t => E = nseN ∧ va_P D vwCl (wld ad cA h) t.heap ∧ va_D A (wld ad cA h) ∧ va_F A st t
def noQ : Array Value → State → Outcome → State → Prop := fun _ _ _ _ => False
theorem x_throw {l : Launch} (hl : l.stackTraces = false) {p : Program} {e : Env} {s : State} {m : MethodId} {args : Array Value} {below : List Frame} {meth : Method} {c : Code} {D : va_G} {cA : Nat → ClassId} {tys : List (ClassId × FieldType)} {A : Nat → Prop} {ad : Nat → Nat} (C : RCx mX7_named p s m args meth c D cA tys A ad) (x : XE A s) (hex : ∀ x ∈ c.exceptionTable.toList, False) {lv : List (Option Value)} {h : PH} : GT p l e (ktR 6 1 6) s m args below meth c D cA A ad 0 0 (vx_MQ below noQ (XXC D cA A ad h) args s 1 6 A) mX7_named.2.2.1 37 lv [] h := by
  intro H locs ls hP hD hS hv
  refine vx_throw0 (cls := nseN) (names := nseC) (own := RX7) (A := A) C.1 C.2.1 hl C.2.2.2.1 (by decide +kernel) (by decide +kernel) (C.2.2.2.2.1 _ nse_cl) (C.2.2.2.2.1 _ nse_in) (at0_hat C.2.2.2.2.1 x) (fun w hw => ?_) x.2.1 x.2.2 hS (hv.1.1.trans C.2.2.1.symm) dX7_named_37 dX7_named_40 dX7_named_41 dX7_named_44 (fun y hy => (hex y hy).elim) (Nat.le_of_ble_eq_true rfl) (Nat.le_of_ble_eq_true rfl) (Nat.le_of_ble_eq_true rfl) (Nat.le_of_ble_eq_true rfl) C.2.2.2.2.2.2.1 (fun t hvm hz hk => ⟨rfl, hP.kept (fun k q hq => hk q.1 ((hP k q hq).lt)), hD, ⟨Nat.le_trans hS.1 hz, fun q h1 h2 => (hk q (Nat.lt_of_lt_of_le h1 hS.1)).trans (hS.2.1 q h1 h2)⟩⟩) hS.2.2 (Nat.le_refl _) (Nat.le_refl _)
  rcases List.mem_cons.mp hw with rfl | hw
  · decide +kernel
  · rcases List.mem_cons.mp hw with rfl | hw
    · decide +kernel
    · exact List.all_eq_true.mp at0_ot w hw
theorem x_named {l : Launch} (hl : l.stackTraces = false) {h : PH} {t : NT} {nm : NMS} {ac : List NT} {ms : MES} (cx : CX h t nm ac ms) {n0 : Nat} (h0 : n0 ≤ 600) (e0 : h.1 0 1 = nI n0) {B : Nat → Nat} (ok : OKB n0 B) (hb : ∀ i, i < n0 → h.1 1 i = sB (B i)) {x : Int32} (hj : nmF nm (NT.J t) B n0 x = none) (D : va_G) (cA : Nat → ClassId) (tys : List (ClassId × FieldType)) (A : Nat → Prop) (ad : Nat → Nat) (hT : RTy cA tys) : vx_Met l yX7_named (rt_ws mX7_named) (ktR 6 1 6) (XPc D cA tys A ad [.ref 0, .int x] h) noQ (XXC D cA A ad h) 1 6 A := by
  refine vx_ofW (cc := mX7_named.2.1) (maxL := mX7_named.2.2.1) (ret := mX7_named.2.2.2) (by decide) rfl ?_
  intro p e s m args below meth c s₁ Bd hml hex hv
  obtain ⟨⟨rfl, hP, hD, hK, hE⟩, hX⟩ := hv
  have hts := atoms_spec (ws := rt_ws mX7_named) Bd.pre
  have hlv := lv_entry (([.ref 0, .int x] : List Value).map (tr ad)) (n := 3) (Nat.le_of_ble_eq_true rfl)
  have C : RCx mX7_named p s m (([.ref 0, .int x] : List Value).map (tr ad)).toArray meth c D cA tys A ad := ⟨Bd.exec, Bd.bytes, hml, findClass_of_methodNamed Bd.named, fun w hw => hts w (List.mem_cons_of_mem _ hw), Bd.returns, Bd.notSynchronized, hK, hT, hE⟩
  rw [lg_entry_eq]
  have hLH : LH ad ((lg_sl (([.ref 0, .int x] : List Value).map (tr ad)) ++ List.replicate (3 - (lg_sl (([.ref 0, .int x] : List Value).map (tr ad))).length) Slot.unset).toArray) 3 [some (.ref 0), some (.int x), none] := ⟨⟨hlv.1, hlv.2.1, fun q hq => hlv.2.2 q (by
    simp [lpairs, List.range, List.range.loop, tr] at hq
    rcases hq with rfl | rfl <;> simp [lv_args, tr, Value.category])⟩, rfl⟩
  suffices g : GT p l e (ktR 6 1 6) s m (([.ref 0, .int x] : List Value).map (tr ad)).toArray below meth c D cA A ad 0 0 (vx_MQ below noQ (XXC D cA A ad h) (([.ref 0, .int x] : List Value).map (tr ad)).toArray s 1 6 A) mX7_named.2.2.1 0 [some (.ref 0), some (.int x), none] [] h from g s.heap [] _ hP hD va_S.rf hLH
  have fin : GT p l e (ktR 6 1 6) s m (([.ref 0, .int x] : List Value).map (tr ad)).toArray below meth c D cA A ad 0 0 (vx_MQ below noQ (XXC D cA A ad h) (([.ref 0, .int x] : List Value).map (tr ad)).toArray s 1 6 A) mX7_named.2.2.1 31 [some (.ref 0), some (.int x), none] [.int (-1)] h := by
    refine g_istore_2 C dX7_named_31 ?_
    refine g_iload_2 C dX7_named_32 ?_
    refine g_iconst C (v := (-1)) dX7_named_33 (by decide) ?_
    refine g_icmp_ne C 45 dX7_named_34 (by decide) (fun c_34 => absurd rfl c_34) (fun c_34 => ?_)
    exact x_throw hl C hX hex
  refine g_iload_1 C dX7_named_0 ?_
  refine g_if_lt C 12 dX7_named_1 (by decide) (fun c_1 => ?_) (fun c_1 => ?_)
  · refine g_iconst C (v := (-1)) dX7_named_12 (by decide) ?_
    exact g_goto C 31 dX7_named_13 (by decide) fin
  refine g_iload_1 C dX7_named_4 ?_
  refine g_aload_0 C dX7_named_5 ?_
  refine g_getI C dX7_named_6 fl_X7_58 rfl ?_
  rw [e0]
  refine g_icmp_le C 16 dX7_named_9 (by decide) (fun c_9 => ?_) (fun c_9 => ?_)
  · have hx0 : (0 : Int32) ≤ x := Int32.not_lt.mp c_1
    obtain ⟨n, hn, rfl⟩ := ex_le (k := n0) (by omega) ⟨hx0, c_9⟩
    unfold nmF at hj
    rw [if_pos ⟨hx0, c_9⟩, nI_toInt (by omega)] at hj
    have hj : jH nm (NT.J t) (nW B n) = none := hj
    have hpr : NT.J t ≤ 9 ∧ NamC h 15 t nm ∧ nmOK t nm := by
      by_cases hJ : 0 < NT.J t
      · obtain ⟨tx, no, -, sc, na, -⟩ := cx.2.2.2 hJ
        exact ⟨tx.1.2.1, na, no⟩
      · exact ⟨by omega, fun j hj => absurd hj (by omega), fun j hj => absurd hj (by omega)⟩
    have cl := k_called15 hpr.1 cx.1 hpr.2.1 hpr.2.2 (on_eq (B := B) (n := n) hpr.2.2)
    rw [hj] at cl
    refine g_aload_0 C dX7_named_16 ?_
    refine g_getR C (a := 15) dX7_named_17 fl_X7_37 rfl rfl ?_
    refine g_aload_0 C dX7_named_20 ?_
    refine g_getR C (a := 1) dX7_named_21 fl_X7_11 rfl rfl ?_
    refine g_iload_1 C dX7_named_24 ?_
    refine g_callS C (M' := mX3_onlyWord) (as := [.ref 1, .int (nI n)]) (st := [.ref 15]) dX7_named_25 ml_X7_314 mo_X3_onlyWord (k_only (B := B) ⟨by omega, fun i hi => ok.2 i (by omega)⟩ (fun i hi => hb i (by omega))) ⟨Nat.le_of_ble_eq_true rfl, Nat.le_of_ble_eq_true rfl⟩ ⟨Nat.zero_le _, Nat.zero_le _⟩ rfl rfl rfl (fun v h' q => ?_)
    obtain ⟨⟨rfl, rfl⟩, -⟩ := q
    refine g_callV C (M' := mX2_jointCalled) (as := [.long (onW B n)]) (st := []) dX7_named_28 ml_X7_318 mo_X2_jointCalled rfl cl ⟨Nat.le_of_ble_eq_true rfl, Nat.le_of_ble_eq_true rfl⟩ ⟨Nat.zero_le _, Nat.zero_le _⟩ rfl rfl rfl (fun v h' q => ?_)
    obtain ⟨⟨rfl, rfl⟩, -⟩ := q
    exact fin
  · refine g_iconst C (v := (-1)) dX7_named_12 (by decide) ?_
    exact g_goto C 31 dX7_named_13 (by decide) fin
