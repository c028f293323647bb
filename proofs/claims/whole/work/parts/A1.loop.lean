/-! ===== the law: named, and the loop ===== -/
section LAW2
variable {p : Program} {l : Launch} {e : Env} {s : State} {m : MethodId} {args : Array Value} {below : List Frame} {meth : Method} {c : Code} {D : va_G} {cA : Nat → ClassId} {tys : List (ClassId × FieldType)} {A : Nat → Prop} {ad : Nat → Nat} {ce sl : Nat} {Qe : State → Prop} {pc : Nat} {lv : List (Option Value)} {st : List Value} {h : PH} {L i : Nat} {xs : Nat → Int32}
theorem l_callN (Y : LC p l s m args meth c D cA tys A ad L xs) {x : Int32} {Q' : Option Value → PH → Prop} (hM : ∀ (D : va_G) (cA : Nat → ClassId) (tys : List (ClassId × FieldType)) (A : Nat → Prop) (ad : Nat → Nat), RTy cA tys → Met l yL_named wsN (ktR 7 1 6) (XPc D cA tys A ad [.ref 0, .int x, .ref 99] h) (RQ D cA A ad Q') 1 6 A) (hce : ce + 1 ≤ room_1.cells ∧ sl + 6 ≤ room_1.slots) (k : ∀ v h', Q' v h' → GT p l e room_1 s m args below meth c D cA A ad (ce + 1) (sl + 6) Qe 7 1266 lv (v.toList ++ []) h') : GT p l e room_1 s m args below meth c D cA A ad ce sl Qe 7 1263 lv [.ref 99, .int x, .ref 0] h := by
  intro H locs ls hP hD hS hl
  have C := Y.1
  have hrun := vx_runSW (H := H) (locs := locs) (cells := ce) (slots := sl) (e := e) (below := below) (meth := meth) (As := [.ref (ad 0), .int x, .ref (ad 99)]) (rest := []) (hh := hhN) (own := RL) (bytes := cL_named) (maxL := 4) (ret := some .int) (g := F0 m 1263 ls [.ref (ad 99), .int x, .ref (ad 0)]) ⟨C.1, C.2.1, C.2.2.1, C.2.2.2.1, C.2.2.2.2.1⟩ (hM D cA tys A ad C.2.2.2.2.2.2.2.2.1) (vx_cwSW (R := room_1) (own := RL) (index := 175) (Ts := rt_tbl) (ws' := rt_tbl) 3 C.2.2.2.2.1 (tbl_in (fun w hw => ?_) (fun _ h => h)) rfl rfl rfl ⟨by decide +kernel, by decide +kernel, by decide +kernel⟩ ⟨Nat.le_of_ble_eq_true rfl, Nat.le_of_ble_eq_true rfl⟩) ⟨XPc.blind, fun U hU hW => ⟨rt_pre C hP hD hS hU hW, Y.2.1.move hW (fun a ha hn => by rw [hU]; exact hS.2.1 a ha hn)⟩⟩ rfl rfl hl.1.1 rfl (lv_room (Nat.zero_le _)) dL_law_1263 hce
  · intro T hT X
    obtain ⟨v, st₀, t, T', L9, h0, X', hL, e1, e2, ⟨⟨v', h', hv, hq, hp, hd⟩, hz, hk⟩, stp⟩ := hrun T hT X
    cases hv
    rw [h0] at hz hk
    have kk := k v' h' hq T'.heap (locs ++ L9) ls (by rw [e1]; exact hp) hd
      ⟨Nat.le_trans hS.1 (by rw [e1]; exact hz), fun q h1 h2 => by rw [e1, hk q (Nat.lt_of_lt_of_le h1 hS.1) h2]; exact hS.2.1 q h1 h2, fun q hq => by
        rcases List.mem_append.mp hq with h | h
        · exact hS.2.2 q h
        · exact hL q h⟩ hl
    rw [← tr_list] at kk
    obtain ⟨t2, a1, b1⟩ := kk T' rfl X'
    exact ⟨t2, stp t2 a1, b1⟩
  · rcases List.mem_append.mp hw with h | h
    · simp only [List.mem_cons, List.not_mem_nil, or_false] at h
      rcases h with rfl | rfl | rfl
      · exact ml_L_175
      · exact mo_Ln.1
      · exact mo_Ln.2
    · rcases List.mem_cons.mp h with rfl | h
      · exact wsN_in
      · exact h
theorem l_sub7 {i : Nat} (a b : Option Value) : lsub [some (.ref 5000), some (.ref 0), some (.ref 74), some (.ref 99), some (.int (nI i)), a, b] (lvL i) := by
  simp [lsub]
theorem lc_named (Y : LC p l s m args meth c D cA tys A ad L xs) (hi : i + 6 ≤ L) (hce : ce + 1 ≤ room_1.cells ∧ sl + 6 ≤ room_1.slots) (i0 : INV h) (K : ∀ h', INV h' → GT p l e room_1 s m args below meth c D cA A ad (ce + 1) (sl + 6) Qe 7 1337 (lvL i) [] h') : GT p l e room_1 s m args below meth c D cA A ad ce sl Qe 7 1255 (lvL i) [] h := by
  refine g_aload_1 (M := mL_law) Y.1 dL_law_1255 ?_
  refine l_arg Y 1 dL_law_1256 dL_law_1257 dL_law_1259 (by decide) dL_law_1260 dL_law_1261 hi (by decide) ?_
  refine g_aload_3 (M := mL_law) Y.1 dL_law_1262 ?_
  rcases o_named Y.2.2.2.2.2.2 i0 (xs (i + 1)) with ⟨j, hM, hc⟩ | ⟨hM, hc⟩
  · refine l_callN Y hM hce (fun v h1 q => ?_)
    obtain ⟨rfl, rfl⟩ := q
    refine g_istore_5 (M := mL_law) Y.1 dL_law_1266 ?_
    refine g_aload_2 (M := mL_law) Y.1 dL_law_1268 ?_
    refine l_arg Y 1 dL_law_1269 dL_law_1270 dL_law_1272 (by decide) dL_law_1273 dL_law_1274 hi (by decide) ?_
    refine g_callV (M := mL_law) Y.1 (M' := mX8_named) (as := [.int (xs (i + 1))]) (st := []) dL_law_1275 ml_L_180 mo_X8_named rfl hc ⟨Nat.le_of_ble_eq_true rfl, Nat.le_of_ble_eq_true rfl⟩ hce rfl rfl rfl (fun v h2 q => ?_)
    obtain ⟨⟨rfl, rfl⟩, -⟩ := q
    refine g_istore_6 (M := mL_law) Y.1 dL_law_1278 ?_
    refine g_aload_2 (M := mL_law) Y.1 dL_law_1280 ?_
    refine g_callV (M := mL_law) Y.1 (M' := mX8_thrown) (as := []) (st := []) dL_law_1281 ml_L_181 mo_X8_thrown rfl (q_thrown _) ⟨Nat.le_of_ble_eq_true rfl, Nat.le_of_ble_eq_true rfl⟩ hce rfl rfl rfl (fun v h2 q => ?_)
    obtain ⟨⟨rfl, rfl⟩, -⟩ := q
    rw [pI_eq]
    refine g_iload_5 (M := mL_law) Y.1 dL_law_1284 ?_
    refine g_icmp_eq (M := mL_law) Y.1 1291 dL_law_1286 (by decide) (fun _ => ?_) (fun q => absurd rfl q)
    refine g_iload_5 (M := mL_law) Y.1 dL_law_1291 ?_
    refine g_if_ne (M := mL_law) Y.1 1308 dL_law_1293 (by decide) (fun q => absurd rfl q) (fun _ => ?_)
    refine g_aload_3 (M := mL_law) Y.1 dL_law_1296 ?_
    refine g_iconst (M := mL_law) Y.1 (v := 0) dL_law_1297 (by decide) ?_
    refine g_lald (M := mL_law) Y.1 (i := 0) (n := 1) dL_law_1298 rfl (show ¬ ((0 : Int32) < 0 ∨ 1 ≤ (0 : Int32).toNatClampNeg) by decide) ?_
    rw [show (pI (pL h 99 0 (nI j).toInt64) 74 0 0).2 99 (0 : Int32).toNatClampNeg = (nI j).toInt64 from (by rw [show (0 : Int32).toNatClampNeg = 0 from by decide]; show (pL h 99 0 (nI j).toInt64).2 99 0 = _; exact pL_eq)]
    refine g_iload_6 (M := mL_law) Y.1 dL_law_1299 ?_
    refine g_i2l (M := mL_law) Y.1 dL_law_1301 ?_
    refine g_lcmp (M := mL_law) Y.1 dL_law_1302 ?_
    refine g_if_eq (M := mL_law) Y.1 1308 dL_law_1303 (by decide) (fun _ => ?_) (fun q => absurd (cmp_rf _) q)
    refine g_goto (M := mL_law) Y.1 1337 dL_law_1308 (by decide) ?_
    exact g_sub (M := mL_law) (lv' := lvL i) (show lsub (_ :: _ :: _ :: _ :: _ :: _ :: _ :: []) (lvL i) from l_sub7 _ _) (K _ ((i0.o99 _).q 0))
  · refine l_callN Y hM hce (fun v h1 q => ?_)
    obtain ⟨rfl, rfl⟩ := q
    refine g_istore_5 (M := mL_law) Y.1 dL_law_1266 ?_
    refine g_aload_2 (M := mL_law) Y.1 dL_law_1268 ?_
    refine l_arg Y 1 dL_law_1269 dL_law_1270 dL_law_1272 (by decide) dL_law_1273 dL_law_1274 hi (by decide) ?_
    refine g_callV (M := mL_law) Y.1 (M' := mX8_named) (as := [.int (xs (i + 1))]) (st := []) dL_law_1275 ml_L_180 mo_X8_named rfl hc ⟨Nat.le_of_ble_eq_true rfl, Nat.le_of_ble_eq_true rfl⟩ hce rfl rfl rfl (fun v h2 q => ?_)
    obtain ⟨⟨rfl, rfl⟩, -⟩ := q
    refine g_istore_6 (M := mL_law) Y.1 dL_law_1278 ?_
    refine g_aload_2 (M := mL_law) Y.1 dL_law_1280 ?_
    refine g_callV (M := mL_law) Y.1 (M' := mX8_thrown) (as := []) (st := []) dL_law_1281 ml_L_181 mo_X8_thrown rfl (q_thrown _) ⟨Nat.le_of_ble_eq_true rfl, Nat.le_of_ble_eq_true rfl⟩ hce rfl rfl rfl (fun v h2 q => ?_)
    obtain ⟨⟨rfl, rfl⟩, -⟩ := q
    rw [pI_eq]
    refine g_iload_5 (M := mL_law) Y.1 dL_law_1284 ?_
    refine g_icmp_eq (M := mL_law) Y.1 1291 dL_law_1286 (by decide) (fun _ => ?_) (fun q => absurd rfl q)
    refine g_iload_5 (M := mL_law) Y.1 dL_law_1291 ?_
    refine g_if_ne (M := mL_law) Y.1 1308 dL_law_1293 (by decide) (fun _ => ?_) (fun q => absurd q (by decide))
    refine g_goto (M := mL_law) Y.1 1337 dL_law_1308 (by decide) ?_
    exact g_sub (M := mL_law) (lv' := lvL i) (show lsub (_ :: _ :: _ :: _ :: _ :: _ :: _ :: []) (lvL i) from l_sub7 _ _) (K _ ((i0.q 0).q 1))
theorem and63 (y : Int32) : ∃ n, n < 64 ∧ y &&& 63 = nI n := by
  refine ⟨(y &&& 63).toBitVec.toNat, ?_, ?_⟩
  · have h1 : (y &&& 63).toBitVec = y.toBitVec &&& (63 : BitVec 32) := rfl
    rw [h1, BitVec.toNat_and]
    exact Nat.lt_of_le_of_lt Nat.and_le_right (by decide)
  · apply Int32.toBitVec_inj.mp
    show (y &&& 63).toBitVec = BitVec.ofNat 32 _
    rw [BitVec.ofNat_toNat, BitVec.setWidth_eq]
theorem lenC {L i : Nat} (hL : L ≤ 3072) (hi : i ≤ 4000) : (nI L - 6 < nI i) ↔ L < i + 6 := by
  have e1 : (nI L).toInt = (L : Int) := nI_toInt (by omega)
  have e2 : (nI i).toInt = (i : Int) := nI_toInt (by omega)
  have e3 : (nI L - 6).toInt = (L : Int) - 6 := by
    rw [Int32.toInt_sub, e1, show (6 : Int32).toInt = 6 from by decide, fb_bmod (by omega) (by omega)]
  rw [fa_lt, e3, e2]
  omega

theorem l_out (Y : LC p l s m #[Value.ref (ad 5000)] meth c D cA tys A ad L xs) (hA : ∀ q, A q → s.heap.size ≤ q) (hce : ce ≤ 1125 ∧ sl ≤ 12164) : GT p l e room_1 s m #[Value.ref (ad 5000)] below meth c D cA A ad ce sl (lw_Z below #[Value.ref (ad 5000)] s) 7 1343 lv [] h := by
  refine g_iconst (M := mL_law) Y.1 (v := 1) dL_law_1343 (by decide) ?_
  intro H locs ls hP hD hS hl
  refine va_forget (fun q hq => hA _ (hS.2.2 q hq)) ?_
  refine W.widen (k := 1125) (n := 12164) hce.1 hce.2 ?_
  exact lw_ret (p := p) (l := l) (e := e) Y.1.1 Y.1.2.1 Y.1.2.2.2.2.2.1 Y.1.2.2.2.2.2.2.1 dL_law_1344
theorem l_loop (Y : LC p l s m #[Value.ref (ad 5000)] meth c D cA tys A ad L xs) (hA : ∀ q, A q → s.heap.size ≤ q) : ∀ (f q : Nat) (h : PH), INV h → L ≤ 6 * q + 6 * f → 6 * q ≤ 3077 → GT p l e room_1 s m #[Value.ref (ad 5000)] below meth c D cA A ad (100 + q) (3966 + 6 * q) (lw_Z below #[Value.ref (ad 5000)] s) 7 23 (lvL (6 * q)) [] h := by
  intro f
  induction f with
  | zero =>
    intro q h i0 hf hq
    have hL := Y.2.2.2.2.2.1
    refine g_iload_4 (M := mL_law) Y.1 dL_law_23 ?_
    refine g_aload_0 (M := mL_law) Y.1 dL_law_25 ?_
    refine l_slen Y dL_law_26 ?_
    refine g_bipush (M := mL_law) Y.1 (v := 6) dL_law_27 (by decide) ?_
    refine g_isub (M := mL_law) Y.1 dL_law_29 ?_
    refine g_icmp_gt (M := mL_law) Y.1 1343 dL_law_30 (by decide) (fun _ => l_out Y hA ⟨by omega, by omega⟩) (fun q9 => absurd ((lenC hL (by omega)).mpr (by omega)) q9)
  | succ f ih =>
    intro q h i0 hf hq
    have hL := Y.2.2.2.2.2.1
    refine g_iload_4 (M := mL_law) Y.1 dL_law_23 ?_
    refine g_aload_0 (M := mL_law) Y.1 dL_law_25 ?_
    refine l_slen Y dL_law_26 ?_
    refine g_bipush (M := mL_law) Y.1 (v := 6) dL_law_27 (by decide) ?_
    refine g_isub (M := mL_law) Y.1 dL_law_29 ?_
    refine g_icmp_gt (M := mL_law) Y.1 1343 dL_law_30 (by decide) (fun _ => l_out Y hA ⟨by omega, by omega⟩) (fun q9 => ?_)
    have hi : 6 * q + 6 ≤ L := Nat.le_of_not_lt (fun z => q9 ((lenC hL (by omega)).mpr z))
    have K : ∀ h', INV h' → GT p l e room_1 s m #[Value.ref (ad 5000)] below meth c D cA A ad (100 + q + 1) (3966 + 6 * q + 6) (lw_Z below #[Value.ref (ad 5000)] s) 7 1337 (lvL (6 * q)) [] h' := fun h' i9 => by
      refine g_iinc_4 (M := mL_law) Y.1 (v := nI 6) dL_law_1337 (by decide) ?_
      rw [nI_ad9]
      refine g_goto (M := mL_law) Y.1 23 dL_law_1340 (by decide) ?_
      exact ih (q + 1) h' i9 (by omega) (by omega)
    refine g_aload_0 (M := mL_law) Y.1 dL_law_33 ?_
    refine g_iload_4 (M := mL_law) Y.1 dL_law_34 ?_
    refine l_sld Y dL_law_36 (by omega) ?_
    refine g_bipush (M := mL_law) Y.1 (v := 63) dL_law_37 (by decide) ?_
    refine g_iand (M := mL_law) Y.1 dL_law_39 ?_
    obtain ⟨n, hn, en⟩ := and63 (xs (6 * q))
    rw [en]
    have hce : 100 + q ≤ room_1.cells ∧ 3966 + 6 * q ≤ room_1.slots := ⟨show 100 + q ≤ 1125 by omega, show 3966 + 6 * q ≤ 12164 by omega⟩
    by_cases h40 : n < 40
    · rcases (show n = 0 ∨ n = 1 ∨ n = 2 ∨ n = 3 ∨ n = 4 ∨ n = 5 ∨ n = 6 ∨ n = 7 ∨ n = 8 ∨ n = 9 ∨ n = 10 ∨ n = 11 ∨ n = 12 ∨ n = 13 ∨ n = 14 ∨ n = 15 ∨ n = 16 ∨ n = 17 ∨ n = 18 ∨ n = 19 ∨ n = 20 ∨ n = 21 ∨ n = 22 ∨ n = 23 ∨ n = 24 ∨ n = 25 ∨ n = 26 ∨ n = 27 ∨ n = 28 ∨ n = 29 ∨ n = 30 ∨ n = 31 ∨ n = 32 ∨ n = 33 ∨ n = 34 ∨ n = 35 ∨ n = 36 ∨ n = 37 ∨ n = 38 ∨ n = 39 by omega) with rfl | rfl | rfl | rfl | rfl | rfl | rfl | rfl | rfl | rfl | rfl | rfl | rfl | rfl | rfl | rfl | rfl | rfl | rfl | rfl | rfl | rfl | rfl | rfl | rfl | rfl | rfl | rfl | rfl | rfl | rfl | rfl | rfl | rfl | rfl | rfl | rfl | rfl | rfl | rfl
      · exact g_tabIn (M := mL_law) Y.1 216 (off := 176) dL_law_40 (by decide) (by decide) (by decide) (by decide) (lc_feed Y hi hce i0 K)
      · exact g_tabIn (M := mL_law) Y.1 289 (off := 249) dL_law_40 (by decide) (by decide) (by decide) (by decide) (lc_text Y hi hce i0 K)
      · exact g_tabIn (M := mL_law) Y.1 314 (off := 274) dL_law_40 (by decide) (by decide) (by decide) (by decide) (lc_fault Y hi hce i0 K)
      · exact g_tabIn (M := mL_law) Y.1 327 (off := 287) dL_law_40 (by decide) (by decide) (by decide) (by decide) (lc_where Y hi hce i0 K)
      · exact g_tabIn (M := mL_law) Y.1 340 (off := 300) dL_law_40 (by decide) (by decide) (by decide) (by decide) (lc_about Y hi hce i0 K)
      · exact g_tabIn (M := mL_law) Y.1 365 (off := 325) dL_law_40 (by decide) (by decide) (by decide) (by decide) (lc_edge Y hi hce i0 K)
      · exact g_tabIn (M := mL_law) Y.1 402 (off := 362) dL_law_40 (by decide) (by decide) (by decide) (by decide) (lc_flow Y hi hce i0 K)
      · exact g_tabIn (M := mL_law) Y.1 428 (off := 388) dL_law_40 (by decide) (by decide) (by decide) (by decide) (lc_loss Y hi hce i0 K)
      · exact g_tabIn (M := mL_law) Y.1 454 (off := 414) dL_law_40 (by decide) (by decide) (by decide) (by decide) (lc_joint Y hi hce i0 K)
      · exact g_tabIn (M := mL_law) Y.1 491 (off := 451) dL_law_40 (by decide) (by decide) (by decide) (by decide) (lc_head Y hi hce i0 K)
      · exact g_tabIn (M := mL_law) Y.1 517 (off := 477) dL_law_40 (by decide) (by decide) (by decide) (by decide) (lc_pressure Y hi hce i0 K)
      · exact g_tabIn (M := mL_law) Y.1 543 (off := 503) dL_law_40 (by decide) (by decide) (by decide) (by decide) (lc_weakest Y hi hce i0 K)
      · exact g_tabIn (M := mL_law) Y.1 556 (off := 516) dL_law_40 (by decide) (by decide) (by decide) (by decide) (lc_ring Y hi hce i0 K)
      · exact g_tabIn (M := mL_law) Y.1 593 (off := 553) dL_law_40 (by decide) (by decide) (by decide) (by decide) (lc_sum Y hi hce i0 K)
      · exact g_tabIn (M := mL_law) Y.1 631 (off := 591) dL_law_40 (by decide) (by decide) (by decide) (by decide) (lc_early Y hi hce i0 K)
      · exact g_tabIn (M := mL_law) Y.1 669 (off := 629) dL_law_40 (by decide) (by decide) (by decide) (by decide) (lc_work Y hi hce i0 K)
      · exact g_tabIn (M := mL_law) Y.1 683 (off := 643) dL_law_40 (by decide) (by decide) (by decide) (by decide) (lc_gap Y hi hce i0 K)
      · exact g_tabIn (M := mL_law) Y.1 709 (off := 669) dL_law_40 (by decide) (by decide) (by decide) (by decide) (lc_balance Y hi hce i0 K)
      · exact g_tabIn (M := mL_law) Y.1 735 (off := 695) dL_law_40 (by decide) (by decide) (by decide) (by decide) (lc_lossAt Y hi hce i0 K)
      · exact g_tabIn (M := mL_law) Y.1 785 (off := 745) dL_law_40 (by decide) (by decide) (by decide) (by decide) (lc_behind Y hi hce i0 K)
      · exact g_tabIn (M := mL_law) Y.1 810 (off := 770) dL_law_40 (by decide) (by decide) (by decide) (by decide) (lc_scaled Y hi hce i0 K)
      · exact g_tabIn (M := mL_law) Y.1 836 (off := 796) dL_law_40 (by decide) (by decide) (by decide) (by decide) (lc_most Y hi hce i0 K)
      · exact g_tabIn (M := mL_law) Y.1 861 (off := 821) dL_law_40 (by decide) (by decide) (by decide) (by decide) (lc_pairs Y hi hce i0 K)
      · exact g_tabIn (M := mL_law) Y.1 874 (off := 834) dL_law_40 (by decide) (by decide) (by decide) (by decide) (lc_fire Y hi hce i0 K)
      · exact g_tabIn (M := mL_law) Y.1 911 (off := 871) dL_law_40 (by decide) (by decide) (by decide) (by decide) (lc_cut Y hi hce i0 K)
      · exact g_tabIn (M := mL_law) Y.1 936 (off := 896) dL_law_40 (by decide) (by decide) (by decide) (by decide) (lc_vital Y hi hce i0 K)
      · exact g_tabIn (M := mL_law) Y.1 949 (off := 909) dL_law_40 (by decide) (by decide) (by decide) (by decide) (lc_widen Y hi hce i0 K)
      · exact g_tabIn (M := mL_law) Y.1 962 (off := 922) dL_law_40 (by decide) (by decide) (by decide) (by decide) (lc_widened Y hi hce i0 K)
      · exact g_tabIn (M := mL_law) Y.1 976 (off := 936) dL_law_40 (by decide) (by decide) (by decide) (by decide) (lc_measure Y hi hce i0 K)
      · exact g_tabIn (M := mL_law) Y.1 1013 (off := 973) dL_law_40 (by decide) (by decide) (by decide) (by decide) (lc_forget Y hi hce i0 K)
      · exact g_tabIn (M := mL_law) Y.1 1026 (off := 986) dL_law_40 (by decide) (by decide) (by decide) (by decide) (lc_off Y hi hce i0 K)
      · exact g_tabIn (M := mL_law) Y.1 1064 (off := 1024) dL_law_40 (by decide) (by decide) (by decide) (by decide) (lc_leak Y hi hce i0 K)
      · exact g_tabIn (M := mL_law) Y.1 1090 (off := 1050) dL_law_40 (by decide) (by decide) (by decide) (by decide) (lc_valve Y hi hce i0 K)
      · exact g_tabIn (M := mL_law) Y.1 1143 (off := 1103) dL_law_40 (by decide) (by decide) (by decide) (by decide) (lc_draw Y hi hce i0 K)
      · exact g_tabIn (M := mL_law) Y.1 1180 (off := 1140) dL_law_40 (by decide) (by decide) (by decide) (by decide) (lc_well Y hi hce i0 K)
      · exact g_tabIn (M := mL_law) Y.1 1205 (off := 1165) dL_law_40 (by decide) (by decide) (by decide) (by decide) (lc_resist Y hi hce i0 K)
      · exact g_tabIn (M := mL_law) Y.1 1242 (off := 1202) dL_law_40 (by decide) (by decide) (by decide) (by decide) (lc_undo Y hi hce i0 K)
      · exact g_tabIn (M := mL_law) Y.1 1255 (off := 1215) dL_law_40 (by decide) (by decide) (by decide) (by decide) (lc_named Y hi ⟨show 100 + q + 1 ≤ 1125 by omega, show 3966 + 6 * q + 6 ≤ 12164 by omega⟩ i0 K)
      · exact g_tabIn (M := mL_law) Y.1 1311 (off := 1271) dL_law_40 (by decide) (by decide) (by decide) (by decide) (lc_size Y hi hce i0 K)
      · exact g_tabIn (M := mL_law) Y.1 1324 (off := 1284) dL_law_40 (by decide) (by decide) (by decide) (by decide) (lc_trouble Y hi hce i0 K)
    · refine g_tabOut (M := mL_law) Y.1 1337 dL_law_40 (Or.inr ?_) (by decide) (g_widen (M := mL_law) (Nat.le_add_right _ _) (Nat.le_add_right _ _) (K h i0))
      rw [nI_toInt (by omega)]
      omega
end LAW2
