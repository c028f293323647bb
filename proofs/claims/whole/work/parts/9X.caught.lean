/-! ===== the law's own named(): the throw is caught ===== -/
abbrev hhN : List (Nat × Nat × Nat × Nat) := [(0, 9, 12, 13)]
abbrev mL_named : MI := (yL_named, cL_named, 4, some .int)
def wsN : List Cond := Cond.codeWith yL_named cL_named 4 (some .int) hhN :: rt_tbl
theorem wsN_in : Cond.codeWith yL_named cL_named 4 (some .int) hhN ∈ rt_tbl := in_rt (List.mem_of_getElem? (i := 1065) (by decide +kernel)) (by decide +kernel)
theorem mo_Ln : Cond.static yL_named ∈ rt_tbl ∧ Cond.initialized RL ∈ rt_tbl := ⟨in_rt (List.mem_of_getElem? (i := 1064) (by decide +kernel)) (by decide +kernel), in_rt (List.mem_of_getElem? (i := 113) (by decide +kernel)) (by decide +kernel)⟩
theorem met_ofWH {l : Launch} {y : MethodName} {ws ws' : List Cond} {rm : Room} {Pc : Array Value → State → Prop} {Qc : Array Value → State → Outcome → State → Prop} {mc ms : Nat} {free : Addr → Prop} {cc : ByteArray} {maxL : Nat} {ret : Option FieldType} {hh : List (Nat × Nat × Nat × Nat)}
    (hy : plainName y.cls = true) (hw : ws = Cond.codeWith y cc maxL ret hh :: ws')
    (body : ∀ p e s m args below meth c s₁, BodyLoose p l y (headSpec ws rm) cc maxL ret e s m args below meth c s₁ → c.maxLocals = maxL → Pc args s →
      W p l e (headSpec ws rm).room s m args below meth c s.heap [] 0 0 (MQ below Qc args s mc ms free) (entryFrame m args maxL)) : Met l y ws rm Pc Qc mc ms free := by
  refine MetFree.of_bodyS (code := cc) (maxLocals := maxL) (ret := ret) hy ?_ ?_
  · intro args s m h hn
    obtain ⟨m9, meth, c, hn9, h1, h2, h3, h4, -, h5, h6, -⟩ := Cond.codeWith_spec (atoms_spec (ws := ws) h _ (by rw [hw]; exact List.mem_cons_self))
    cases hn.symm.trans hn9
    exact ⟨meth, c, h1, h2, h3, h4, h5, h6⟩
  · intro p e s m args below meth c s₁ B hml hP _
    have hh0 : s₁.heap = s.heap := by rw [B.state]; rfl
    obtain ⟨t, a1, o, b1, b2, b3⟩ := body p e s m args below meth c s₁ B hml hP s₁ hh0 (Stand.of_body B)
    exact ⟨t, o, a1, b1, b2, ⟨b3.1, b3.2⟩⟩
theorem g_iret {p : Program} {l : Launch} {e : Env} {R : Room} {s : State} {m : MethodId} {args : Array Value} {below : List Frame} {meth : Method} {c : Code} {D : va_G} {cA : Nat → ClassId} {tys : List (ClassId × FieldType)} {A : Nat → Prop} {ad : Nat → Nat} {ce sl : Nat} {M : MI} {pc : Nat} {lv : List (Option Value)} {h : PH} (C : RCx M p s m args meth c D cA tys A ad) {Q : Option Value → PH → Prop} {x : Int32} (hd : decode M.2.1 pc = .ok (.ireturn, 1)) (hr : M.2.2.2 = some .int) (q : Q (some (.int x)) h) : GT p l e R s m args below meth c D cA A ad ce sl (MQ below (RQ D cA A ad Q) args s ce sl A) M.2.2.1 pc lv [.int x] h := by
  intro H locs ls hP hD hS hl
  exact W.iret (v := x) C.1 C.2.1 (C.2.2.2.2.2.1.trans hr) (fun t ht hW => ⟨⟨some (.int x), h, rfl, q, by rw [ht]; exact hP, hD⟩, hS.F ht⟩) hS.2.2 hd C.2.2.2.2.2.2.1
theorem n_entry {l : Launch} {x : Int32} {h : PH} {D : va_G} {cA : Nat → ClassId} {tys : List (ClassId × FieldType)} {A : Nat → Prop} {ad : Nat → Nat} {Q : Option Value → PH → Prop} (hT : RTy cA tys)
    (k : ∀ (p : Program) (e : Env) (s : State) (m : MethodId) (args : Array Value) (below : List Frame) (meth : Method) (c : Code), RCx mL_named p s m args meth c D cA tys A ad → XE A s → c.exceptionTable.toList = tableOf hhN → GT p l e (ktR 7 1 6) s m args below meth c D cA A ad 0 0 (MQ below (RQ D cA A ad Q) args s 1 6 A) mL_named.2.2.1 0 [some (.ref 0), some (.int x), some (.ref 99), none] [] h) : Met l yL_named wsN (ktR 7 1 6) (XPc D cA tys A ad [.ref 0, .int x, .ref 99] h) (RQ D cA A ad Q) 1 6 A := by
  refine met_ofWH (cc := cL_named) (maxL := 4) (ret := some .int) (hh := hhN) (by decide) rfl ?_
  intro p e s m args below meth c s₁ Bd hml hv
  obtain ⟨⟨rfl, hP, hD, hK, hE⟩, hX⟩ := hv
  have hts := atoms_spec (ws := wsN) Bd.pre
  have hlv := lv_entry (([.ref 0, .int x, .ref 99] : List Value).map (tr ad)) (n := 4) (Nat.le_of_ble_eq_true rfl)
  have C : RCx mL_named p s m (([.ref 0, .int x, .ref 99] : List Value).map (tr ad)).toArray meth c D cA tys A ad := ⟨Bd.exec, Bd.bytes, hml, findClass_of_methodNamed Bd.named, fun w hw => hts w (List.mem_cons_of_mem _ hw), Bd.returns, Bd.notSynchronized, hK, hT, hE⟩
  rw [lg_entry_eq]
  have hLH : LH ad ((lg_sl (([.ref 0, .int x, .ref 99] : List Value).map (tr ad)) ++ List.replicate (4 - (lg_sl (([.ref 0, .int x, .ref 99] : List Value).map (tr ad))).length) Slot.unset).toArray) 4 [some (.ref 0), some (.int x), some (.ref 99), none] := ⟨⟨hlv.1, hlv.2.1, fun q hq => hlv.2.2 q (by
    simp [lpairs, List.range, List.range.loop, tr] at hq
    rcases hq with rfl | rfl | rfl <;> simp [lv_args, tr, Value.category])⟩, rfl⟩
  exact k p e s m _ below meth c C hX (vx_table (x := yL_named) Bd (hts _ List.mem_cons_self)) s.heap [] _ hP hD va_S.rf hLH
theorem n_found {l : Launch} {h : PH} {t : NT} {nm : NMS} {ac : List NT} {ms : MES} (cx : CX h t nm ac ms) {n0 : Nat} (h0 : n0 ≤ 600) (e0 : h.1 0 1 = nI n0) {B : Nat → Nat} (ok : OKB n0 B) (hb : ∀ i, i < n0 → h.1 1 i = sB (B i)) {x : Int32} {j : Nat} (hj : nmF nm (NT.J t) B n0 x = some j) (D : va_G) (cA : Nat → ClassId) (tys : List (ClassId × FieldType)) (A : Nat → Prop) (ad : Nat → Nat) (hT : RTy cA tys) : Met l yL_named wsN (ktR 7 1 6) (XPc D cA tys A ad [.ref 0, .int x, .ref 99] h) (RQ D cA A ad (fun a h' => a = some (.int 0) ∧ h' = pL h 99 0 (nI j).toInt64)) 1 6 A := by
  refine n_entry hT (fun p e s m args below meth c C hX htab => ?_)
  refine g_aload_2 C dL_named_0 ?_
  refine g_iconst C (v := 0) dL_named_1 (by decide) ?_
  refine g_aload_0 C dL_named_2 ?_
  refine g_iload_1 C dL_named_3 ?_
  refine g_callV C (M' := mX7_named) (as := [.int x]) (st := [.int 0, .ref 99]) dL_named_4 ml_L_7 mo_X7_named rfl (k_namedOK cx h0 e0 ok hb hj) ⟨Nat.le_of_ble_eq_true rfl, Nat.le_of_ble_eq_true rfl⟩ ⟨Nat.zero_le _, Nat.zero_le _⟩ rfl rfl rfl (fun v h' q => ?_)
  obtain ⟨⟨rfl, rfl⟩, -⟩ := q
  refine g_i2l C dL_named_7 ?_
  refine g_last C (i := 0) (n := 1) dL_named_8 rfl (show ¬ ((0 : Int32) < 0 ∨ 1 ≤ (0 : Int32).toNatClampNeg) by decide) ?_
  refine g_goto C 15 dL_named_9 (by decide) ?_
  refine g_iconst C (v := 0) dL_named_15 (by decide) ?_
  refine g_widen (ce' := 1) (sl' := 6) (Nat.zero_le _) (Nat.zero_le _) ?_
  exact g_iret C dL_named_16 rfl ⟨rfl, rfl⟩
theorem n_none {l : Launch} (hl : l.stackTraces = false) {h : PH} {t : NT} {nm : NMS} {ac : List NT} {ms : MES} (cx : CX h t nm ac ms) {n0 : Nat} (h0 : n0 ≤ 600) (e0 : h.1 0 1 = nI n0) {B : Nat → Nat} (ok : OKB n0 B) (hb : ∀ i, i < n0 → h.1 1 i = sB (B i)) {x : Int32} (hj : nmF nm (NT.J t) B n0 x = none) (D : va_G) (cA : Nat → ClassId) (tys : List (ClassId × FieldType)) (A : Nat → Prop) (ad : Nat → Nat) (hT : RTy cA tys) : Met l yL_named wsN (ktR 7 1 6) (XPc D cA tys A ad [.ref 0, .int x, .ref 99] h) (RQ D cA A ad (fun a h' => a = some (.int 1) ∧ h' = h)) 1 6 A := by
  refine n_entry hT (fun p e s m args below meth c C hX htab => ?_)
  refine g_aload_2 C dL_named_0 ?_
  refine g_iconst C (v := 0) dL_named_1 (by decide) ?_
  refine g_aload_0 C dL_named_2 ?_
  refine g_iload_1 C dL_named_3 ?_
  intro H locs ls hP hD hS hv
  have hg : (wld ad cA h)[0]? = some (ad 0, .inr (7, fvs ad h 7 0)) := by rw [wld_get (by decide), cellE_o (o := 0) (ci := 7) rfl]
  have hcw : CallW (ktR 7 1 6) s args RL (cR 7) 7 mX7_named.1 mX7_named.2.1 mX7_named.2.2.1 mX7_named.2.2.2 (rt_ws mX7_named) (ktR 6 1 6) 1 6 1 := by
    refine cwV (Ts := rt_tbl) (ws' := rt_tbl) 1 C.2.2.2.2.1 (tbl_in (fun w hw => ?_) (fun _ h => h)) rfl rfl rfl mo_X7_named.2.2.2.2.1 ⟨Nat.le_of_ble_eq_true rfl, Nat.le_of_ble_eq_true rfl⟩
    rcases List.mem_append.mp hw with h | h
    · simp only [List.mem_cons, List.not_mem_nil, or_false] at h
      rcases h with rfl | rfl | rfl | rfl
      · exact ml_L_7
      · exact mo_X7_named.1
      · exact mo_X7_named.2.1
      · exact mo_X7_named.2.2.1
    · exact rt_ws_in mo_X7_named.2.2.2.1 w h
  have hrun := vx_runV (H := H) (locs := locs) (cells := 0) (slots := 0) (e := e) (below := below) (meth := meth) (As := [.int x]) (rest := [.int 0, .ref (ad 99)]) (b := ad 0) (g := F0 m 4 ls [.int x, .ref (ad 0), .int 0, .ref (ad 99)]) ⟨C.1, C.2.1, C.2.2.1, C.2.2.2.1, C.2.2.2.2.1⟩ (x_named hl cx h0 e0 ok hb hj D cA tys A ad hT) hcw ⟨XPc.blind, va_recv C.2.2.2.2.2.2.2.1 hP (vwCl_at (by decide)) hg, fun U hU hW => ⟨rt_pre C hP hD hS hU hW, hX.move hW (fun a ha hn => by rw [hU]; exact hS.2.1 a ha hn)⟩⟩ rfl rfl hv.1.1 rfl (lv_room (Nat.le_of_ble_eq_true rfl)) dL_named_4 ⟨Nat.le_of_ble_eq_true rfl, Nat.le_of_ble_eq_true rfl⟩
  intro T hT0 X
  rcases hrun T hT0 X with ⟨v, st₀, t, T', L, h0', X', hL, e1, e2, hQ, stp⟩ | ⟨q, st₀, t, T', L, E, ce, h0', X', hL, e1, e2, ⟨rfl, hp1, hd1, hF⟩, hce, hcv, hcl, stp⟩
  · exact hQ.elim
  · obtain ⟨-, -, hS1⟩ := vx_keep (A0 := A) (A1 := A) (free := A) h0' e1 hS (fun _ _ h => h) (fun _ h => h) hL hF
    have hP1 : va_P D vwCl (wld ad cA h) T'.heap := by rw [e1]; exact hp1
    have kk : W p l e (ktR 7 1 6) s m args below meth c T'.heap (locs ++ L) (0 + 1) (0 + 6) (MQ below (RQ D cA A ad (fun a h' => a = some (.int 1) ∧ h' = h)) args s 1 6 A) (F0 m 12 ls [.ref q]) := by
      refine lv_astore_n C.1 C.2.1 dL_named_12 rfl hv.1 (Nat.le_of_ble_eq_true rfl) rfl (fun ls2 hl2 => ?_)
      refine lv_iconst (v := 1) C.1 C.2.1 dL_named_13 (by decide) ?_
      exact W.iret (v := 1) C.1 C.2.1 C.2.2.2.2.2.1 (fun t ht hW => ⟨⟨some (.int 1), h, rfl, ⟨rfl, rfl⟩, by rw [ht]; exact hP1, hd1⟩, hS1.F ht⟩) hS1.2.2 dL_named_14 C.2.2.2.2.2.2.1
    obtain ⟨t2, a1, b1⟩ := vx_catch (own := RL) (name := nseN) (E := nseN) (rest := [.int 0, .ref (ad 99)]) (pc := 4) (ls := ls) C.2.2.2.1 [] ((tableOf hhN).head (by decide)) [] (by rw [htab]; rfl) (fun z hz => nomatch hz) (by decide) (by decide) (C.2.2.2.2.1 _ nse_clL) (va_Nw.use (nseW_on nseW_self) (hX.1 _ nseW_self)) (H := T'.heap) (by rw [e1]; exact hce) hcv hcl kk T' rfl X'
    exact ⟨t2, stp.trans a1, b1⟩
