/-! ===== the law from its entry ===== -/
section LAW3
variable {p : Program} {l : Launch} {e : Env} {s : State} {m : MethodId} {args : Array Value} {below : List Frame} {meth : Method} {c : Code} {D : va_G} {cA : Nat → ClassId} {tys : List (ClassId × FieldType)} {A : Nat → Prop} {ad : Nat → Nat} {Qe : State → Prop}
theorem l_make {M' : MI} {i1 i2 dp' cx n' sl' o ce sl pc : Nat} {fx : List Value} {H : Heap} {locs : List Loc} {ls : Array Slot} (C : RCx mL_law p s m args meth c D cA tys A ad) (hb : adOK ad) (hA : ∀ q, ad 0 ≤ q → A q) (hs0 : s.heap.size = ad 0) (hN : nwC s) (hd1 : decode cL_law pc = .ok (.new i1, 3)) (hd2 : decode cL_law (pc + 3) = .ok (.dup, 1)) (hd3 : decode cL_law (pc + 3 + 1) = .ok (.invokespecial i2, 3)) (hcl : Cond.classLink RL i1 (cR cx) ∈ rt_tbl) (hin : Cond.instantiable (cR cx) (nfl cx) ∈ rt_tbl) (hini : Cond.initialized (cR cx) ∈ rt_tbl) (hcx : cx < 9) (hfx : ∀ x, x < nfl cx → defaultValue (cTy cx x) = vp_V fx x) (hfx2 : ∀ ad : Nat → Nat, fx.map (tr ad) = fx) (hlk : Cond.methodLink RL i2 M'.1 ∈ rt_tbl) (hM' : M'.1.cls = cR cx ∧ M'.1.name = "<init>" ∧ M'.2.2.1 = 1 ∧ M'.2.2.2 = none ∧ M'.1.cls ≠ "java/lang/invoke/MethodHandle" ∧ M'.1.cls ≠ "java/lang/invoke/VarHandle" ∧ (parseMethodDescriptor M'.1.desc).map (fun d => d.parameters.length) = some 0) (hco : Cond.code M'.1 M'.2.1 M'.2.2.1 M'.2.2.2 ∈ rt_tbl) (hinst : Cond.instanceMethod M'.1 ∈ rt_tbl) (hc : KCon M' dp' o cx n' sl' fx) (hdp : dp' ≤ 10) (hlt : o + n' < 99) (hc1 : ce + 1 + n' ≤ room_1.cells) (hs1 : sl + nfl cx + sl' ≤ room_1.slots) (hF : LF D cA ad o H) (hS : va_S A s.heap H locs) (hls : ls.size = 7)
    (k : ∀ (H' : Heap) (locs' : List Loc), LF D cA ad (o + 1 + n') H' → va_S A s.heap H' locs' → W p l e room_1 s m args below meth c H' locs' (ce + 1 + n') (sl + nfl cx + sl') Qe (F0 m (pc + 7) ls [.ref (ad o)])) : W p l e room_1 s m args below meth c H locs ce sl Qe (F0 m pc ls []) := by
  have hKn := C.2.2.2.2.2.2.2.1.1 cx _ (vwCl_at hcx)
  have ho : ad o = ad 0 + o := hb o (by omega)
  refine W.newcK C.1 C.2.1 C.2.2.2.1 (C.2.2.2.2.1 _ hcl) (C.2.2.2.2.1 _ hin) (C.2.2.2.2.1 _ hini) rfl hd1 (show ce + 1 ≤ room_1.cells by omega) (show sl + nfl cx ≤ room_1.slots by omega) hKn.2.1 (h := ad o) (by rw [hF.1, ho]) fun H1 kC hkC e1 z1 o1 => ?_
  have hB : va_at D vwCl (ad o, .inr (cx, fx.map (tr ad))) H1 := by
    rw [hfx2 ad]
    exact ⟨_, vwCl_at hcx, (u_born (cTy cx) C.2.2.2.2.1 (in_tbl hcx) hKn hkC e1 (cTy_ok hcx)).to hfx⟩
  have hz1 : H1.size = ad 0 + (o + 1 + 0) := by rw [z1, ho]; omega
  have hpre : KH D cA ad o cx 0 fx H1 := ⟨hz1, hB, fun x hx => absurd hx (Nat.not_lt_zero _)⟩
  refine lv_dup (va := .ref (ad o)) C.1 C.2.1 hd2 rfl ?_
  have hrun := va_runI (As := []) (b := ad o) (rest := [.ref (ad o)]) (H := H1) (locs := locs) (cells := ce + 1) (slots := sl + nfl cx) (g := F0 m (pc + 3 + 1) ls [.ref (ad o), .ref (ad o)]) (R := room_1) (below := below) (meth := meth) (e := e) (own := RL) (index := i2) (bytes := M'.2.1) (maxL := M'.2.2.1) (n := 0) (Ts := rt_tbl) ⟨C.1, C.2.1, C.2.2.1, C.2.2.2.1, C.2.2.2.2.1⟩ (hc l D cA tys ad C.2.2.2.2.2.2.2.2.1 hb) (cwI (ws' := rt_tbl) 0 C.2.2.2.2.1 (tbl_in (rt_ws_in hco) (fun _ h => h)) (by show _ = Cond.code M'.1 M'.2.1 M'.2.2.1 none :: _; rw [← hM'.2.2.2.1]; rfl) rfl rfl (C.2.2.2.2.1 _ (by rw [hM'.1]; exact hini)) (C.2.2.2.2.1 _ hlk) (C.2.2.2.2.1 _ hinst) hM'.2.1 ⟨hM'.2.2.2.2.1, hM'.2.2.2.2.2.1, hM'.2.2.2.2.2.2⟩ ⟨show dp' + 1 ≤ 14 by omega, by rw [hM'.2.2.1]; show 8 + (1 + 11) + 34 * dp' ≤ 510; omega⟩) ⟨KPc.blind, fun U hU hW => ⟨rfl, by rw [hU]; exact hpre, va_K.moved hW.alike C.2.2.2.2.2.2.2.1, hN.warm hW⟩⟩ rfl rfl hls rfl (lv_room (Nat.le_of_ble_eq_true rfl)) hd3 ⟨show ce + 1 + n' ≤ room_1.cells from hc1, show sl + nfl cx + sl' ≤ room_1.slots from hs1⟩
  intro T hT X
  obtain ⟨v, st₀, t, T', L, h0, X', hL, e1', e2', ⟨⟨hv, hF'⟩, hz, hk⟩, stp⟩ := hrun T hT X
  cases hv
  rw [h0] at hz hk
  have hlo : ∀ q : Nat, q < ad o → T'.heap[q]? = H[q]? := fun q hq => by
    rw [e1', hk q (by rw [hz1]; omega) (by omega)]
    exact o1 q hq
  have hnew : LF D cA ad (o + 1 + n') T'.heap := by
    refine ⟨by rw [e1', hF'.1], fun x hx => ?_⟩
    rcases Nat.lt_or_ge x o with hx1 | hx1
    · refine (hF.2 x hx1).kept (hlo _ ?_)
      show ad x < _
      rw [hb x (by omega)]; omega
    · have := hF'.2 (x - o) (by omega)
      rw [show o + (x - o) = x by omega] at this
      rw [e1']; exact this
  have hSn : va_S A s.heap T'.heap (locs ++ L) := by
    refine ⟨by rw [e1', hF'.1, hs0]; omega, fun q h1 h2 => ?_, fun q hq => ?_⟩
    · rw [hlo q (by omega)]
      exact hS.2.1 q h1 h2
    · rcases List.mem_append.mp hq with h | h
      · exact hS.2.2 q h
      · have hq9 : ad o ≤ q.base := hL q h
        refine hA _ ?_
        omega
  obtain ⟨t2, a1, b1⟩ := k T'.heap (locs ++ L) hnew hSn T' rfl X'
  exact ⟨t2, stp t2 a1, b1⟩
theorem l_outA {ce sl : Nat} {H : Heap} {locs : List Loc} {ls : Array Slot} (C : RCx mL_law p s m args meth c D cA tys A ad) (hb : adOK ad) (hs0 : s.heap.size = ad 0) (hc1 : ce + 1 ≤ room_1.cells) (hs1 : sl + 1 ≤ room_1.slots) (hF : LF D cA ad 99 H) (hS : va_S A s.heap H locs)
    (k : ∀ (H' : Heap), LF D cA ad 100 H' → va_S A s.heap H' locs → W p l e room_1 s m args below meth c H' locs (ce + 1) (sl + 1) Qe (F0 m 19 ls [.ref (ad 99)])) : W p l e room_1 s m args below meth c H locs ce sl Qe (F0 m 17 ls [.int 1]) := by
  have hs : shp 99 = some (.inr (.long, 1)) := rfl
  have h99 : ad 99 = ad 0 + 99 := hb 99 (by omega)
  obtain ⟨a0, ha0, hz⟩ := cell_z (ad := ad) (cA := cA) hs (by simp)
  obtain ⟨t0, ht0⟩ := C.2.2.2.2.2.2.2.2.1 _ _ _ hs
  have hRA := (C.2.2.2.2.2.2.2.1.2 _ _ ht0).2
  refine va_newaK (atype := .long) C.1 C.2.1 (C.2.2.2.2.1 _ ar_long) rfl dL_law_17 rfl (N := 1) (by decide) (by decide) (Nat.le_of_ble_eq_true rfl) hc1 hs1 (h := ad 99) (by rw [hF.1, h99]) fun H1 cA' e1 z1 o1 hAr hNm => ?_
  have h2 : s.vm.findClass ("[" ++ (newarray.typeOf .long).toString) = some (cA 99) := hRA
  have hcA : cA' = cA 99 := Option.some.inj (hNm.symm.trans h2)
  subst hcA
  refine k H1 ⟨by have := z1; omega, fun x hx => ?_⟩ ⟨by rw [z1, h99, hs0]; omega, fun q h1 h2 => (o1 q (by omega)).trans (hS.2.1 q h1 h2), hS.2.2⟩
  rcases Nat.lt_or_ge x 99 with hx1 | hx1
  · refine (hF.2 x hx1).kept (o1 _ ?_)
    show ad x < ad 99
    rw [hb x (by omega)]; omega
  · rw [show x = 99 by omega, ha0]
    show H1[ad 99]? = some (vp_cell _ _)
    rw [hz]
    exact e1
theorem l_go {L : Nat} {xs : Nat → Int32} {ls : Array Slot} (Y : LC p l s m #[Value.ref (ad 5000)] meth c D cA tys A ad L xs) (hA : ∀ q, A q → s.heap.size ≤ q) (hA2 : ∀ q, ad 0 ≤ q → A q) (hb : adOK ad) (hs0 : s.heap.size = ad 0) (hN : nwC s) (hl : lv_has ls 7 [(0, .ref (ad 5000))]) : W p l e room_1 s m #[Value.ref (ad 5000)] below meth c s.heap [] 0 0 (lw_Z below #[Value.ref (ad 5000)] s) (F0 m 0 ls []) := by
  have hL := Y.2.2.2.2.2.1
  have C := Y.1
  refine l_make (M' := mX7_init) (cx := 7) (fx := fd7) (o := 0) C hb hA2 hs0 hN dL_law_0 dL_law_3 dL_law_4 cl_L_8 in_X7.1 in_X7.2.1 (by decide) fd7_d fd7_t ml_L_15 mi_X7 in_X7.2.2.1 in_X7.2.2.2 kc_X7_0 (by decide) (by decide) (Nat.le_of_ble_eq_true rfl) (Nat.le_of_ble_eq_true rfl) ⟨hs0, fun k hk => absurd hk (Nat.not_lt_zero _)⟩ va_S.rf hl.1 (fun H1 locs1 hF1 hS1 => ?_)
  refine lv_astore_n (lv' := [(1, .ref (ad 0)), (0, .ref (ad 5000))]) C.1 C.2.1 dL_law_7 rfl hl (by decide) rfl (fun ls1 hl1 => ?_)
  refine l_make (M' := mX8_init) (cx := 8) (fx := fd8) (o := 74) C hb hA2 hs0 hN dL_law_8 dL_law_11 dL_law_12 cl_L_16 in_X8.1 in_X8.2.1 (by decide) fd8_d fd8_t ml_L_18 mi_X8 in_X8.2.2.1 in_X8.2.2.2 kc_X8_74 (by decide) (by decide) (Nat.le_of_ble_eq_true rfl) (Nat.le_of_ble_eq_true rfl) hF1 hS1 hl1.1 (fun H2 locs2 hF2 hS2 => ?_)
  refine lv_astore_n (lv' := [(2, .ref (ad 74)), (1, .ref (ad 0)), (0, .ref (ad 5000))]) C.1 C.2.1 dL_law_15 rfl hl1 (by decide) rfl (fun ls2 hl2 => ?_)
  refine lv_iconst (v := 1) C.1 C.2.1 dL_law_16 (by decide) ?_
  refine l_outA C hb hs0 (Nat.le_of_ble_eq_true rfl) (Nat.le_of_ble_eq_true rfl) hF2 hS2 (fun H3 hF3 hS3 => ?_)
  refine lv_astore_n (lv' := [(3, .ref (ad 99)), (2, .ref (ad 74)), (1, .ref (ad 0)), (0, .ref (ad 5000))]) C.1 C.2.1 dL_law_19 rfl hl2 (by decide) rfl (fun ls3 hl3 => ?_)
  refine lv_iconst (v := 0) C.1 C.2.1 dL_law_20 (by decide) ?_
  refine lv_istore (lv' := [(4, .int 0), (3, .ref (ad 99)), (2, .ref (ad 74)), (1, .ref (ad 0)), (0, .ref (ad 5000))]) C.1 C.2.1 dL_law_21 hl3 (by decide) rfl (fun ls4 hl4 => ?_)
  refine W.widen (k := 100) (n := 3966) (Nat.le_of_ble_eq_true rfl) (Nat.le_of_ble_eq_true rfl) ?_
  have hlv : LH ad ls4 7 (lvL 0) := ⟨⟨hl4.1, hl4.2.1, fun q hq => hl4.2.2 q (by
    simp [lpairs, List.range, List.range.loop, tr, nI_0] at hq
    rcases hq with rfl | rfl | rfl | rfl | rfl <;> simp)⟩, rfl⟩
  exact l_loop Y hA 512 0 hp0 INV0 (by omega) (by omega) H3 locs2 ls4 hF3.P (LF.D hb hA2) hS3 hlv
end LAW3
theorem nt_false {l : Launch} (h : l.flags = flags0) : l.stackTraces = false := by
  unfold Launch.stackTraces
  rw [h]
  decide +kernel
/-- THE LAW, from its entry -/
theorem whole_start {p : Program} {e : Env} {s : State} {m : MethodId} {below : List Frame} {meth : Method} {c : Code} (l : Launch) (hflags : l.flags = flags0) {b L : Nat} {xs : Nat → Int32} (hL : L ≤ 3072) (C0 : lw_At p s m meth c b L xs) : W p l e room_1 s m #[Value.ref b] below meth c s.heap [] 0 0 (lw_Z below #[Value.ref b] s) (entryFrame m ([Value.ref b] : List Value).toArray 7) := by
  obtain ⟨hx, hbc, hr, hml, hown, hts, hX, hbl, hlocks, hgv⟩ := C0
  have hA : ∀ a : Nat, a < s.heap.size → ¬ (fun q : Nat => s.heap.size ≤ q) a := fun a ha => Nat.not_le.mpr ha
  have ht : ∀ w ∈ rt_tbl, w.before #[Value.ref b] s = true := fun w hw => hts w (List.mem_filter.mp hw).1
  obtain ⟨adK, adV, t4, hS, hR, hCS, hSI⟩ := e_str hts hgv hA
  obtain ⟨D, cA, tys, hK, hT⟩ := e_kn ht
  obtain ⟨ad, a0, a2, a3, a4, a5⟩ := e_ad s.heap.size b t4 adK adV
  have hE : strE ad (fun q : Nat => s.heap.size ≤ q) s := by
    refine ⟨⟨fun i hi => ?_, fun i j hi hj q => ?_⟩, fun i hi => ?_, ⟨hCS, ?_⟩, fun q hq => e_ns hts (List.mem_append_left _ hq)⟩
    · have h1 := hS.1 i hi
      rw [← a2 i hi, ← a3 i hi] at h1
      exact h1
    · have q : ad (2000 + i) = ad (2000 + j) := q
      rw [a2 i hi, a2 j hj] at q
      exact hS.2 i j hi hj q
    · rw [a2 i hi]
      exact hR i hi
    · unfold siE
      rw [a4]
      exact hSI
  have hX2 := e_xe hts hgv hA
  have hl := lv_entry [Value.ref b] (n := 7) (Nat.le_of_ble_eq_true rfl)
  have hl : lv_has ((lg_sl [Value.ref b] ++ List.replicate (7 - (lg_sl [Value.ref b]).length) Slot.unset).toArray) 7 [(0, .ref b)] := hl
  rw [lg_entry_eq]
  generalize (lg_sl [Value.ref b] ++ List.replicate (7 - (lg_sl [Value.ref b]).length) Slot.unset).toArray = ls at hl ⊢
  subst a5
  have z0 : ad 0 = s.heap.size := a0 0 (by omega)
  have hb : adOK ad := fun o ho => by rw [z0]; exact a0 o ho
  exact l_go (D := D) (cA := cA) (tys := tys) (A := fun q : Nat => s.heap.size ≤ q) ⟨⟨hx, hbc, hml, hown, ht, hr, hlocks, hK, hT, hE⟩, hX2, hX, hbl, Nat.not_le.mpr hbl, hL, nt_false hflags⟩ (fun q h => h) (fun q h => by show s.heap.size ≤ q; omega) hb z0.symm (fun q hq => e_ns hts (List.mem_append_right _ hq)) hl

