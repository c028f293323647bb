/-! THE CLAIM OUT OF ONE WALK OF THE LAW'S BODY. Your part is whole_start (and what it stands on); all else here is the same for every law, but numbers. -/
def R_law : String := "RingWatersLaw"
def lw_P (b : Addr) (xs : List Int32) (args : Array Value) (s : State) : Prop := args = #[.ref b] ∧ s.IntsAt b xs ∧ xs.length ≤ 3072 ∧ (Jvm.Cond.and given_1 narrow_1).before args s = true
def lw_Q (_ : Array Value) (s : State) (o : Outcome) (t : State) : Prop := o = .returned (some (.int 1)) ∧ Framed s o t [] 1125 12164
def lw_Z (below : List Frame) (a : Array Value) (s : State) : State → Prop := fun t => ∃ o, t.status = .running ∧ Ended t below o ∧ lw_Q a s o t
/-- the law's own end, with 1 on the stack, nothing written that was there before, its room as the claim has it -/
theorem lw_ret {p : Program} {l : Launch} {e : Env} {s : State} {m : MethodId} {below : List Frame} {meth : Method} {c : Code} {b : Nat} (hx : p.tables.exec = Jvm.exec) (hb : c.code = code) (hr : meth.sig.returnType = ret) (hlocks : meth.locks = false) {pc : Nat} {H : Heap} {ls : Array Slot} (hdg : decode code pc = .ok (.ireturn, 1)) : W p l e room_1 s m #[Value.ref b] below meth c H [] 1125 12164 (lw_Z below #[Value.ref b] s) (F0 m pc ls [.int 1]) := by
  intro T hT X
  obtain ⟨fs, hret, hrun, hended, hW, hframe⟩ := X.leave (v := some (.int 1)) (hlocks := hlocks) (fun h => by rw [hr] at h; cases h)
  have hmeth' : T.vm.method? m = some meth := X.method'
  refine ⟨T.setFrames fs, ?_, .returned (some (.int 1)), hrun, hended, rfl, ⟨_, rfl⟩, hW, hframe⟩
  jvm_step X.here [X.here.top, hx, hb, hdg, hmeth', hr, ret, narrow_b1]
  (try refine ⟨rfl, ?_⟩); (try refine ⟨rfl, ?_⟩)
  first | (intro acts; rw [hret _ acts rfl rfl rfl]) | rw [hret _ _ rfl rfl rfl]
  exact Steps.refl _
/-- what holds at the law's entry: the machine, the code, the tables' words (any of lw_tbl by 'hts w (by decide +kernel)'), the script of L ints xs at the cell b, what the Statement gives of the start (any of its parts by flat_of_before) -/
def lw_At (p : Program) (s : State) (m : MethodId) (meth : Method) (c : Code) (b L : Nat) (xs : Nat → Int32) : Prop :=
  p.tables.exec = Jvm.exec ∧ c.code = code ∧ meth.sig.returnType = ret ∧ c.maxLocals = 7 ∧ s.vm.findClass R_law = some m.cls ∧ (∀ w ∈ lw_tbl, w.before #[Value.ref b] s = true) ∧ va_X b L xs s s.heap ∧ b < s.heap.size ∧ meth.locks = false ∧ (Jvm.Cond.and given_1 narrow_1).before #[Value.ref b] s = true
/-! ===== the law: its loop ===== -/
abbrev mL_law : MI := (yL_law, cL_law, 7, some .boolean)
abbrev lvL (i : Nat) : List (Option Value) := [some (.ref 5000), some (.ref 0), some (.ref 74), some (.ref 99), some (.int (nI i)), none, none]
def LC (p : Program) (l : Launch) (s : State) (m : MethodId) (args : Array Value) (meth : Method) (c : Code) (D : va_G) (cA : Nat → ClassId) (tys : List (ClassId × FieldType)) (A : Nat → Prop) (ad : Nat → Nat) (L : Nat) (xs : Nat → Int32) : Prop := RCx mL_law p s m args meth c D cA tys A ad ∧ XE A s ∧ va_X (ad 5000) L xs s s.heap ∧ ad 5000 < s.heap.size ∧ ¬ A (ad 5000) ∧ L ≤ 3072 ∧ l.stackTraces = false
section LAW
variable {p : Program} {l : Launch} {e : Env} {s : State} {m : MethodId} {args : Array Value} {below : List Frame} {meth : Method} {c : Code} {D : va_G} {cA : Nat → ClassId} {tys : List (ClassId × FieldType)} {A : Nat → Prop} {ad : Nat → Nat} {ce sl : Nat} {Qe : State → Prop} {pc : Nat} {lv : List (Option Value)} {st : List Value} {h : PH} {L i : Nat} {xs : Nat → Int32}
theorem l_sld (Y : LC p l s m args meth c D cA tys A ad L xs) {j : Nat} (hd : decode cL_law pc = .ok (.iaload, 1)) (hj : j < L) (k : GT p l e room_1 s m args below meth c D cA A ad ce sl Qe 7 (pc + 1) lv (.int (xs j) :: st) h) : GT p l e room_1 s m args below meth c D cA A ad ce sl Qe 7 pc lv (.int (nI j) :: .ref 5000 :: st) h := by
  intro H locs ls hP hD hS hl
  have hL := Y.2.2.2.2.2.1
  refine va_sld Y.1.1 Y.1.2.1 Y.2.2.1 Y.2.2.2.1 Y.2.2.2.2.1 hS (i := nI j) (vp_in_nI hj (by omega)) hd ?_
  rw [nI_clamp (by omega)]
  exact k H locs ls hP hD hS hl
theorem l_slen (Y : LC p l s m args meth c D cA tys A ad L xs) (hd : decode cL_law pc = .ok (.arraylength, 1)) (k : GT p l e room_1 s m args below meth c D cA A ad ce sl Qe 7 (pc + 1) lv (.int (nI L) :: st) h) : GT p l e room_1 s m args below meth c D cA A ad ce sl Qe 7 pc lv (.ref 5000 :: st) h := by
  intro H locs ls hP hD hS hl
  exact va_slen Y.1.1 Y.1.2.1 Y.2.2.1 Y.2.2.2.1 Y.2.2.2.2.1 hS hd (k H locs ls hP hD hS hl)
theorem l_arg (Y : LC p l s m args meth c D cA tys A ad L xs) (k : Nat) {n : Int} {a1 a2 a3 : Option Value} {r : List (Option Value)} (d1 : decode cL_law pc = .ok (.aload_n 0, 1)) (d2 : decode cL_law (pc + 1) = .ok (.iload 4, 2)) (d3 : decode cL_law (pc + 1 + 2) = .ok (.iconst n, 1)) (hn : Int32.ofInt n = nI k) (d4 : decode cL_law (pc + 1 + 2 + 1) = .ok (.iadd, 1)) (d5 : decode cL_law (pc + 1 + 2 + 1 + 1) = .ok (.iaload, 1)) (hi : i + 6 ≤ L) (hk : k < 6) (K : GT p l e room_1 s m args below meth c D cA A ad ce sl Qe 7 (pc + 1 + 2 + 1 + 1 + 1) (some (.ref 5000) :: a1 :: a2 :: a3 :: some (.int (nI i)) :: r) (.int (xs (i + k)) :: st) h) : GT p l e room_1 s m args below meth c D cA A ad ce sl Qe 7 pc (some (.ref 5000) :: a1 :: a2 :: a3 :: some (.int (nI i)) :: r) st h := by
  refine g_aload_0 (M := mL_law) Y.1 d1 ?_
  refine g_iload_4 (M := mL_law) Y.1 d2 ?_
  refine g_iconst (M := mL_law) Y.1 d3 hn ?_
  refine g_iadd (M := mL_law) Y.1 d4 ?_
  rw [nI_ad9]
  exact l_sld Y d5 (by omega) K

theorem cmp_rf (x : Int64) : lg_cmp x x = 0 := by unfold lg_cmp; simp
theorem lc_feed (Y : LC p l s m args meth c D cA tys A ad L xs) (hi : i + 6 ≤ L) (hce : ce ≤ room_1.cells ∧ sl ≤ room_1.slots) (i0 : INV h) (K : ∀ h', INV h' → GT p l e room_1 s m args below meth c D cA A ad (ce + 1) (sl + 6) Qe 7 1337 (lvL i) [] h') : GT p l e room_1 s m args below meth c D cA A ad ce sl Qe 7 216 (lvL i) [] h := by
  obtain ⟨v0, P0, Q0, c1, c2, c3⟩ := (o_feed i0 ((xs (i + 1))) ((xs (i + 2))) ((xs (i + 3))) ((xs (i + 4))) ((xs (i + 5))))
  refine g_aload_1 (M := mL_law) Y.1 dL_law_216 ?_
  refine l_arg Y 1 dL_law_217 dL_law_218 dL_law_220 (by decide) dL_law_221 dL_law_222 hi (by decide) ?_
  refine l_arg Y 2 dL_law_223 dL_law_224 dL_law_226 (by decide) dL_law_227 dL_law_228 hi (by decide) ?_
  refine l_arg Y 3 dL_law_229 dL_law_230 dL_law_232 (by decide) dL_law_233 dL_law_234 hi (by decide) ?_
  refine l_arg Y 4 dL_law_235 dL_law_236 dL_law_238 (by decide) dL_law_239 dL_law_240 hi (by decide) ?_
  refine l_arg Y 5 dL_law_241 dL_law_242 dL_law_244 (by decide) dL_law_245 dL_law_246 hi (by decide) ?_
  refine g_callV (M := mL_law) Y.1 (M' := mX7_feed) (as := [.int (xs (i + 1)), .int (xs (i + 2)), .int (xs (i + 3)), .int (xs (i + 4)), .int (xs (i + 5))]) (st := []) dL_law_247 ml_L_19 mo_X7_feed rfl c1 ⟨Nat.le_of_ble_eq_true rfl, Nat.le_of_ble_eq_true rfl⟩ hce rfl rfl rfl (fun v h1 q => ?_)
  obtain ⟨⟨rfl, p1⟩, ty⟩ := q
  obtain ⟨x0, hx0⟩ := ty.1 rfl
  cases hx0
  refine g_aload_2 (M := mL_law) Y.1 dL_law_250 ?_
  refine l_arg Y 1 dL_law_251 dL_law_252 dL_law_254 (by decide) dL_law_255 dL_law_256 hi (by decide) ?_
  refine l_arg Y 2 dL_law_257 dL_law_258 dL_law_260 (by decide) dL_law_261 dL_law_262 hi (by decide) ?_
  refine l_arg Y 3 dL_law_263 dL_law_264 dL_law_266 (by decide) dL_law_267 dL_law_268 hi (by decide) ?_
  refine l_arg Y 4 dL_law_269 dL_law_270 dL_law_272 (by decide) dL_law_273 dL_law_274 hi (by decide) ?_
  refine l_arg Y 5 dL_law_275 dL_law_276 dL_law_278 (by decide) dL_law_279 dL_law_280 hi (by decide) ?_
  refine g_callV (M := mL_law) Y.1 (M' := mX8_feed) (as := [.int (xs (i + 1)), .int (xs (i + 2)), .int (xs (i + 3)), .int (xs (i + 4)), .int (xs (i + 5))]) (st := [.int x0]) dL_law_281 ml_L_23 mo_X8_feed rfl (c2 h1 p1) ⟨Nat.le_of_ble_eq_true rfl, Nat.le_of_ble_eq_true rfl⟩ hce rfl rfl rfl (fun v h2 q => ?_)
  obtain ⟨⟨rfl, p2⟩, -⟩ := q
  refine g_icmp_eq (M := mL_law) Y.1 1337 dL_law_284 (by decide) (fun _ => ?_) (fun q => absurd rfl q)
  exact g_widen (M := mL_law) (Nat.le_add_right _ _) (Nat.le_add_right _ _) (K h2 (c3 h1 h2 p1 p2))
theorem lc_text (Y : LC p l s m args meth c D cA tys A ad L xs) (hi : i + 6 ≤ L) (hce : ce ≤ room_1.cells ∧ sl ≤ room_1.slots) (i0 : INV h) (K : ∀ h', INV h' → GT p l e room_1 s m args below meth c D cA A ad (ce + 1) (sl + 6) Qe 7 1337 (lvL i) [] h') : GT p l e room_1 s m args below meth c D cA A ad ce sl Qe 7 289 (lvL i) [] h := by
  obtain ⟨v0, P0, Q0, c1, c2, c3⟩ := (o_text i0 ((xs (i + 1))))
  refine g_aload_1 (M := mL_law) Y.1 dL_law_289 ?_
  refine l_arg Y 1 dL_law_290 dL_law_291 dL_law_293 (by decide) dL_law_294 dL_law_295 hi (by decide) ?_
  refine g_callV (M := mL_law) Y.1 (M' := mX7_text) (as := [.int (xs (i + 1))]) (st := []) dL_law_296 ml_L_24 mo_X7_text rfl c1 ⟨Nat.le_of_ble_eq_true rfl, Nat.le_of_ble_eq_true rfl⟩ hce rfl rfl rfl (fun v h1 q => ?_)
  obtain ⟨⟨rfl, p1⟩, ty⟩ := q
  obtain ⟨x0, hx0⟩ := ty.1 rfl
  cases hx0
  refine g_aload_2 (M := mL_law) Y.1 dL_law_299 ?_
  refine l_arg Y 1 dL_law_300 dL_law_301 dL_law_303 (by decide) dL_law_304 dL_law_305 hi (by decide) ?_
  refine g_callV (M := mL_law) Y.1 (M' := mX8_text) (as := [.int (xs (i + 1))]) (st := [.int x0]) dL_law_306 ml_L_27 mo_X8_text rfl (c2 h1 p1) ⟨Nat.le_of_ble_eq_true rfl, Nat.le_of_ble_eq_true rfl⟩ hce rfl rfl rfl (fun v h2 q => ?_)
  obtain ⟨⟨rfl, p2⟩, -⟩ := q
  refine g_icmp_eq (M := mL_law) Y.1 1337 dL_law_309 (by decide) (fun _ => ?_) (fun q => absurd rfl q)
  exact g_widen (M := mL_law) (Nat.le_add_right _ _) (Nat.le_add_right _ _) (K h2 (c3 h1 h2 p1 p2))
theorem lc_fault (Y : LC p l s m args meth c D cA tys A ad L xs) (hi : i + 6 ≤ L) (hce : ce ≤ room_1.cells ∧ sl ≤ room_1.slots) (i0 : INV h) (K : ∀ h', INV h' → GT p l e room_1 s m args below meth c D cA A ad (ce + 1) (sl + 6) Qe 7 1337 (lvL i) [] h') : GT p l e room_1 s m args below meth c D cA A ad ce sl Qe 7 314 (lvL i) [] h := by
  obtain ⟨v0, P0, Q0, c1, c2, c3⟩ := (Quiet.to2 i0 (o_fault i0 ))
  refine g_aload_1 (M := mL_law) Y.1 dL_law_314 ?_
  refine g_callV (M := mL_law) Y.1 (M' := mX7_fault) (as := []) (st := []) dL_law_315 ml_L_28 mo_X7_fault rfl c1 ⟨Nat.le_of_ble_eq_true rfl, Nat.le_of_ble_eq_true rfl⟩ hce rfl rfl rfl (fun v h1 q => ?_)
  obtain ⟨⟨rfl, p1⟩, ty⟩ := q
  obtain ⟨x0, hx0⟩ := ty.1 rfl
  cases hx0
  refine g_aload_2 (M := mL_law) Y.1 dL_law_318 ?_
  refine g_callV (M := mL_law) Y.1 (M' := mX8_fault) (as := []) (st := [.int x0]) dL_law_319 ml_L_32 mo_X8_fault rfl (c2 h1 p1) ⟨Nat.le_of_ble_eq_true rfl, Nat.le_of_ble_eq_true rfl⟩ hce rfl rfl rfl (fun v h2 q => ?_)
  obtain ⟨⟨rfl, p2⟩, -⟩ := q
  refine g_icmp_eq (M := mL_law) Y.1 1337 dL_law_322 (by decide) (fun _ => ?_) (fun q => absurd rfl q)
  exact g_widen (M := mL_law) (Nat.le_add_right _ _) (Nat.le_add_right _ _) (K h2 (c3 h1 h2 p1 p2))
theorem lc_where (Y : LC p l s m args meth c D cA tys A ad L xs) (hi : i + 6 ≤ L) (hce : ce ≤ room_1.cells ∧ sl ≤ room_1.slots) (i0 : INV h) (K : ∀ h', INV h' → GT p l e room_1 s m args below meth c D cA A ad (ce + 1) (sl + 6) Qe 7 1337 (lvL i) [] h') : GT p l e room_1 s m args below meth c D cA A ad ce sl Qe 7 327 (lvL i) [] h := by
  obtain ⟨v0, P0, Q0, c1, c2, c3⟩ := (Quiet.to2 i0 (o_where i0 ))
  refine g_aload_1 (M := mL_law) Y.1 dL_law_327 ?_
  refine g_callV (M := mL_law) Y.1 (M' := mX7_where) (as := []) (st := []) dL_law_328 ml_L_33 mo_X7_where rfl c1 ⟨Nat.le_of_ble_eq_true rfl, Nat.le_of_ble_eq_true rfl⟩ hce rfl rfl rfl (fun v h1 q => ?_)
  obtain ⟨⟨rfl, p1⟩, ty⟩ := q
  obtain ⟨x0, hx0⟩ := ty.1 rfl
  cases hx0
  refine g_aload_2 (M := mL_law) Y.1 dL_law_331 ?_
  refine g_callV (M := mL_law) Y.1 (M' := mX8_where) (as := []) (st := [.int x0]) dL_law_332 ml_L_36 mo_X8_where rfl (c2 h1 p1) ⟨Nat.le_of_ble_eq_true rfl, Nat.le_of_ble_eq_true rfl⟩ hce rfl rfl rfl (fun v h2 q => ?_)
  obtain ⟨⟨rfl, p2⟩, -⟩ := q
  refine g_icmp_eq (M := mL_law) Y.1 1337 dL_law_335 (by decide) (fun _ => ?_) (fun q => absurd rfl q)
  exact g_widen (M := mL_law) (Nat.le_add_right _ _) (Nat.le_add_right _ _) (K h2 (c3 h1 h2 p1 p2))
theorem lc_about (Y : LC p l s m args meth c D cA tys A ad L xs) (hi : i + 6 ≤ L) (hce : ce ≤ room_1.cells ∧ sl ≤ room_1.slots) (i0 : INV h) (K : ∀ h', INV h' → GT p l e room_1 s m args below meth c D cA A ad (ce + 1) (sl + 6) Qe 7 1337 (lvL i) [] h') : GT p l e room_1 s m args below meth c D cA A ad ce sl Qe 7 340 (lvL i) [] h := by
  obtain ⟨v0, P0, Q0, c1, c2, c3⟩ := (Same.to2 i0 (o_about i0 ((xs (i + 1)))))
  refine g_aload_1 (M := mL_law) Y.1 dL_law_340 ?_
  refine l_arg Y 1 dL_law_341 dL_law_342 dL_law_344 (by decide) dL_law_345 dL_law_346 hi (by decide) ?_
  refine g_callV (M := mL_law) Y.1 (M' := mX7_about) (as := [.int (xs (i + 1))]) (st := []) dL_law_347 ml_L_37 mo_X7_about rfl c1 ⟨Nat.le_of_ble_eq_true rfl, Nat.le_of_ble_eq_true rfl⟩ hce rfl rfl rfl (fun v h1 q => ?_)
  obtain ⟨⟨rfl, p1⟩, ty⟩ := q
  obtain ⟨x0, hx0⟩ := ty.1 rfl
  cases hx0
  refine g_aload_2 (M := mL_law) Y.1 dL_law_350 ?_
  refine l_arg Y 1 dL_law_351 dL_law_352 dL_law_354 (by decide) dL_law_355 dL_law_356 hi (by decide) ?_
  refine g_callV (M := mL_law) Y.1 (M' := mX8_about) (as := [.int (xs (i + 1))]) (st := [.int x0]) dL_law_357 ml_L_40 mo_X8_about rfl (c2 h1 p1) ⟨Nat.le_of_ble_eq_true rfl, Nat.le_of_ble_eq_true rfl⟩ hce rfl rfl rfl (fun v h2 q => ?_)
  obtain ⟨⟨rfl, p2⟩, -⟩ := q
  refine g_icmp_eq (M := mL_law) Y.1 1337 dL_law_360 (by decide) (fun _ => ?_) (fun q => absurd rfl q)
  exact g_widen (M := mL_law) (Nat.le_add_right _ _) (Nat.le_add_right _ _) (K h2 (c3 h1 h2 p1 p2))
theorem lc_edge (Y : LC p l s m args meth c D cA tys A ad L xs) (hi : i + 6 ≤ L) (hce : ce ≤ room_1.cells ∧ sl ≤ room_1.slots) (i0 : INV h) (K : ∀ h', INV h' → GT p l e room_1 s m args below meth c D cA A ad (ce + 1) (sl + 6) Qe 7 1337 (lvL i) [] h') : GT p l e room_1 s m args below meth c D cA A ad ce sl Qe 7 365 (lvL i) [] h := by
  obtain ⟨v0, P0, Q0, c1, c2, c3⟩ := (Same.to2 i0 (o_edge i0 ((xs (i + 1))) ((xs (i + 2)))))
  refine g_aload_1 (M := mL_law) Y.1 dL_law_365 ?_
  refine l_arg Y 1 dL_law_366 dL_law_367 dL_law_369 (by decide) dL_law_370 dL_law_371 hi (by decide) ?_
  refine l_arg Y 2 dL_law_372 dL_law_373 dL_law_375 (by decide) dL_law_376 dL_law_377 hi (by decide) ?_
  refine g_callV (M := mL_law) Y.1 (M' := mX7_edge) (as := [.int (xs (i + 1)), .int (xs (i + 2))]) (st := []) dL_law_378 ml_L_41 mo_X7_edge rfl c1 ⟨Nat.le_of_ble_eq_true rfl, Nat.le_of_ble_eq_true rfl⟩ hce rfl rfl rfl (fun v h1 q => ?_)
  obtain ⟨⟨rfl, p1⟩, ty⟩ := q
  obtain ⟨x0, hx0⟩ := ty.1 rfl
  cases hx0
  refine g_aload_2 (M := mL_law) Y.1 dL_law_381 ?_
  refine l_arg Y 1 dL_law_382 dL_law_383 dL_law_385 (by decide) dL_law_386 dL_law_387 hi (by decide) ?_
  refine l_arg Y 2 dL_law_388 dL_law_389 dL_law_391 (by decide) dL_law_392 dL_law_393 hi (by decide) ?_
  refine g_callV (M := mL_law) Y.1 (M' := mX8_edge) (as := [.int (xs (i + 1)), .int (xs (i + 2))]) (st := [.int x0]) dL_law_394 ml_L_45 mo_X8_edge rfl (c2 h1 p1) ⟨Nat.le_of_ble_eq_true rfl, Nat.le_of_ble_eq_true rfl⟩ hce rfl rfl rfl (fun v h2 q => ?_)
  obtain ⟨⟨rfl, p2⟩, -⟩ := q
  refine g_icmp_eq (M := mL_law) Y.1 1337 dL_law_397 (by decide) (fun _ => ?_) (fun q => absurd rfl q)
  exact g_widen (M := mL_law) (Nat.le_add_right _ _) (Nat.le_add_right _ _) (K h2 (c3 h1 h2 p1 p2))
theorem lc_flow (Y : LC p l s m args meth c D cA tys A ad L xs) (hi : i + 6 ≤ L) (hce : ce ≤ room_1.cells ∧ sl ≤ room_1.slots) (i0 : INV h) (K : ∀ h', INV h' → GT p l e room_1 s m args below meth c D cA A ad (ce + 1) (sl + 6) Qe 7 1337 (lvL i) [] h') : GT p l e room_1 s m args below meth c D cA A ad ce sl Qe 7 402 (lvL i) [] h := by
  obtain ⟨v0, P0, Q0, c1, c2, c3⟩ := (Same.to2 i0 (o_flow i0 ((xs (i + 1)))))
  refine g_aload_1 (M := mL_law) Y.1 dL_law_402 ?_
  refine l_arg Y 1 dL_law_403 dL_law_404 dL_law_406 (by decide) dL_law_407 dL_law_408 hi (by decide) ?_
  refine g_callV (M := mL_law) Y.1 (M' := mX7_flow) (as := [.int (xs (i + 1))]) (st := []) dL_law_409 ml_L_46 mo_X7_flow rfl c1 ⟨Nat.le_of_ble_eq_true rfl, Nat.le_of_ble_eq_true rfl⟩ hce rfl rfl rfl (fun v h1 q => ?_)
  obtain ⟨⟨rfl, p1⟩, ty⟩ := q
  obtain ⟨x0, hx0⟩ := ty.2 rfl
  cases hx0
  refine g_aload_2 (M := mL_law) Y.1 dL_law_412 ?_
  refine l_arg Y 1 dL_law_413 dL_law_414 dL_law_416 (by decide) dL_law_417 dL_law_418 hi (by decide) ?_
  refine g_callV (M := mL_law) Y.1 (M' := mX8_flow) (as := [.int (xs (i + 1))]) (st := [.long x0]) dL_law_419 ml_L_50 mo_X8_flow rfl (c2 h1 p1) ⟨Nat.le_of_ble_eq_true rfl, Nat.le_of_ble_eq_true rfl⟩ hce rfl rfl rfl (fun v h2 q => ?_)
  obtain ⟨⟨rfl, p2⟩, -⟩ := q
  refine g_lcmp (M := mL_law) Y.1 dL_law_422 ?_
  refine g_if_eq (M := mL_law) Y.1 1337 dL_law_423 (by decide) (fun _ => ?_) (fun q => absurd (cmp_rf x0) q)
  exact g_widen (M := mL_law) (Nat.le_add_right _ _) (Nat.le_add_right _ _) (K h2 (c3 h1 h2 p1 p2))
theorem lc_loss (Y : LC p l s m args meth c D cA tys A ad L xs) (hi : i + 6 ≤ L) (hce : ce ≤ room_1.cells ∧ sl ≤ room_1.slots) (i0 : INV h) (K : ∀ h', INV h' → GT p l e room_1 s m args below meth c D cA A ad (ce + 1) (sl + 6) Qe 7 1337 (lvL i) [] h') : GT p l e room_1 s m args below meth c D cA A ad ce sl Qe 7 428 (lvL i) [] h := by
  obtain ⟨v0, P0, Q0, c1, c2, c3⟩ := (Same.to2 i0 (o_loss i0 ((xs (i + 1)))))
  refine g_aload_1 (M := mL_law) Y.1 dL_law_428 ?_
  refine l_arg Y 1 dL_law_429 dL_law_430 dL_law_432 (by decide) dL_law_433 dL_law_434 hi (by decide) ?_
  refine g_callV (M := mL_law) Y.1 (M' := mX7_loss) (as := [.int (xs (i + 1))]) (st := []) dL_law_435 ml_L_51 mo_X7_loss rfl c1 ⟨Nat.le_of_ble_eq_true rfl, Nat.le_of_ble_eq_true rfl⟩ hce rfl rfl rfl (fun v h1 q => ?_)
  obtain ⟨⟨rfl, p1⟩, ty⟩ := q
  obtain ⟨x0, hx0⟩ := ty.2 rfl
  cases hx0
  refine g_aload_2 (M := mL_law) Y.1 dL_law_438 ?_
  refine l_arg Y 1 dL_law_439 dL_law_440 dL_law_442 (by decide) dL_law_443 dL_law_444 hi (by decide) ?_
  refine g_callV (M := mL_law) Y.1 (M' := mX8_loss) (as := [.int (xs (i + 1))]) (st := [.long x0]) dL_law_445 ml_L_54 mo_X8_loss rfl (c2 h1 p1) ⟨Nat.le_of_ble_eq_true rfl, Nat.le_of_ble_eq_true rfl⟩ hce rfl rfl rfl (fun v h2 q => ?_)
  obtain ⟨⟨rfl, p2⟩, -⟩ := q
  refine g_lcmp (M := mL_law) Y.1 dL_law_448 ?_
  refine g_if_eq (M := mL_law) Y.1 1337 dL_law_449 (by decide) (fun _ => ?_) (fun q => absurd (cmp_rf x0) q)
  exact g_widen (M := mL_law) (Nat.le_add_right _ _) (Nat.le_add_right _ _) (K h2 (c3 h1 h2 p1 p2))
theorem lc_joint (Y : LC p l s m args meth c D cA tys A ad L xs) (hi : i + 6 ≤ L) (hce : ce ≤ room_1.cells ∧ sl ≤ room_1.slots) (i0 : INV h) (K : ∀ h', INV h' → GT p l e room_1 s m args below meth c D cA A ad (ce + 1) (sl + 6) Qe 7 1337 (lvL i) [] h') : GT p l e room_1 s m args below meth c D cA A ad ce sl Qe 7 454 (lvL i) [] h := by
  obtain ⟨v0, P0, Q0, c1, c2, c3⟩ := (Same.to2 i0 (o_joint i0 ((xs (i + 1))) ((xs (i + 2)))))
  refine g_aload_1 (M := mL_law) Y.1 dL_law_454 ?_
  refine l_arg Y 1 dL_law_455 dL_law_456 dL_law_458 (by decide) dL_law_459 dL_law_460 hi (by decide) ?_
  refine l_arg Y 2 dL_law_461 dL_law_462 dL_law_464 (by decide) dL_law_465 dL_law_466 hi (by decide) ?_
  refine g_callV (M := mL_law) Y.1 (M' := mX7_joint) (as := [.int (xs (i + 1)), .int (xs (i + 2))]) (st := []) dL_law_467 ml_L_55 mo_X7_joint rfl c1 ⟨Nat.le_of_ble_eq_true rfl, Nat.le_of_ble_eq_true rfl⟩ hce rfl rfl rfl (fun v h1 q => ?_)
  obtain ⟨⟨rfl, p1⟩, ty⟩ := q
  obtain ⟨x0, hx0⟩ := ty.1 rfl
  cases hx0
  refine g_aload_2 (M := mL_law) Y.1 dL_law_470 ?_
  refine l_arg Y 1 dL_law_471 dL_law_472 dL_law_474 (by decide) dL_law_475 dL_law_476 hi (by decide) ?_
  refine l_arg Y 2 dL_law_477 dL_law_478 dL_law_480 (by decide) dL_law_481 dL_law_482 hi (by decide) ?_
  refine g_callV (M := mL_law) Y.1 (M' := mX8_joint) (as := [.int (xs (i + 1)), .int (xs (i + 2))]) (st := [.int x0]) dL_law_483 ml_L_58 mo_X8_joint rfl (c2 h1 p1) ⟨Nat.le_of_ble_eq_true rfl, Nat.le_of_ble_eq_true rfl⟩ hce rfl rfl rfl (fun v h2 q => ?_)
  obtain ⟨⟨rfl, p2⟩, -⟩ := q
  refine g_icmp_eq (M := mL_law) Y.1 1337 dL_law_486 (by decide) (fun _ => ?_) (fun q => absurd rfl q)
  exact g_widen (M := mL_law) (Nat.le_add_right _ _) (Nat.le_add_right _ _) (K h2 (c3 h1 h2 p1 p2))
theorem lc_head (Y : LC p l s m args meth c D cA tys A ad L xs) (hi : i + 6 ≤ L) (hce : ce ≤ room_1.cells ∧ sl ≤ room_1.slots) (i0 : INV h) (K : ∀ h', INV h' → GT p l e room_1 s m args below meth c D cA A ad (ce + 1) (sl + 6) Qe 7 1337 (lvL i) [] h') : GT p l e room_1 s m args below meth c D cA A ad ce sl Qe 7 491 (lvL i) [] h := by
  obtain ⟨v0, P0, Q0, c1, c2, c3⟩ := (Same.to2 i0 (o_head i0 ((xs (i + 1)))))
  refine g_aload_1 (M := mL_law) Y.1 dL_law_491 ?_
  refine l_arg Y 1 dL_law_492 dL_law_493 dL_law_495 (by decide) dL_law_496 dL_law_497 hi (by decide) ?_
  refine g_callV (M := mL_law) Y.1 (M' := mX7_head) (as := [.int (xs (i + 1))]) (st := []) dL_law_498 ml_L_59 mo_X7_head rfl c1 ⟨Nat.le_of_ble_eq_true rfl, Nat.le_of_ble_eq_true rfl⟩ hce rfl rfl rfl (fun v h1 q => ?_)
  obtain ⟨⟨rfl, p1⟩, ty⟩ := q
  obtain ⟨x0, hx0⟩ := ty.2 rfl
  cases hx0
  refine g_aload_2 (M := mL_law) Y.1 dL_law_501 ?_
  refine l_arg Y 1 dL_law_502 dL_law_503 dL_law_505 (by decide) dL_law_506 dL_law_507 hi (by decide) ?_
  refine g_callV (M := mL_law) Y.1 (M' := mX8_head) (as := [.int (xs (i + 1))]) (st := [.long x0]) dL_law_508 ml_L_62 mo_X8_head rfl (c2 h1 p1) ⟨Nat.le_of_ble_eq_true rfl, Nat.le_of_ble_eq_true rfl⟩ hce rfl rfl rfl (fun v h2 q => ?_)
  obtain ⟨⟨rfl, p2⟩, -⟩ := q
  refine g_lcmp (M := mL_law) Y.1 dL_law_511 ?_
  refine g_if_eq (M := mL_law) Y.1 1337 dL_law_512 (by decide) (fun _ => ?_) (fun q => absurd (cmp_rf x0) q)
  exact g_widen (M := mL_law) (Nat.le_add_right _ _) (Nat.le_add_right _ _) (K h2 (c3 h1 h2 p1 p2))
theorem lc_pressure (Y : LC p l s m args meth c D cA tys A ad L xs) (hi : i + 6 ≤ L) (hce : ce ≤ room_1.cells ∧ sl ≤ room_1.slots) (i0 : INV h) (K : ∀ h', INV h' → GT p l e room_1 s m args below meth c D cA A ad (ce + 1) (sl + 6) Qe 7 1337 (lvL i) [] h') : GT p l e room_1 s m args below meth c D cA A ad ce sl Qe 7 517 (lvL i) [] h := by
  obtain ⟨v0, P0, Q0, c1, c2, c3⟩ := (Same.to2 i0 (o_pressure i0 ((xs (i + 1)))))
  refine g_aload_1 (M := mL_law) Y.1 dL_law_517 ?_
  refine l_arg Y 1 dL_law_518 dL_law_519 dL_law_521 (by decide) dL_law_522 dL_law_523 hi (by decide) ?_
  refine g_callV (M := mL_law) Y.1 (M' := mX7_pressure) (as := [.int (xs (i + 1))]) (st := []) dL_law_524 ml_L_63 mo_X7_pressure rfl c1 ⟨Nat.le_of_ble_eq_true rfl, Nat.le_of_ble_eq_true rfl⟩ hce rfl rfl rfl (fun v h1 q => ?_)
  obtain ⟨⟨rfl, p1⟩, ty⟩ := q
  obtain ⟨x0, hx0⟩ := ty.2 rfl
  cases hx0
  refine g_aload_2 (M := mL_law) Y.1 dL_law_527 ?_
  refine l_arg Y 1 dL_law_528 dL_law_529 dL_law_531 (by decide) dL_law_532 dL_law_533 hi (by decide) ?_
  refine g_callV (M := mL_law) Y.1 (M' := mX8_pressure) (as := [.int (xs (i + 1))]) (st := [.long x0]) dL_law_534 ml_L_66 mo_X8_pressure rfl (c2 h1 p1) ⟨Nat.le_of_ble_eq_true rfl, Nat.le_of_ble_eq_true rfl⟩ hce rfl rfl rfl (fun v h2 q => ?_)
  obtain ⟨⟨rfl, p2⟩, -⟩ := q
  refine g_lcmp (M := mL_law) Y.1 dL_law_537 ?_
  refine g_if_eq (M := mL_law) Y.1 1337 dL_law_538 (by decide) (fun _ => ?_) (fun q => absurd (cmp_rf x0) q)
  exact g_widen (M := mL_law) (Nat.le_add_right _ _) (Nat.le_add_right _ _) (K h2 (c3 h1 h2 p1 p2))
theorem lc_weakest (Y : LC p l s m args meth c D cA tys A ad L xs) (hi : i + 6 ≤ L) (hce : ce ≤ room_1.cells ∧ sl ≤ room_1.slots) (i0 : INV h) (K : ∀ h', INV h' → GT p l e room_1 s m args below meth c D cA A ad (ce + 1) (sl + 6) Qe 7 1337 (lvL i) [] h') : GT p l e room_1 s m args below meth c D cA A ad ce sl Qe 7 543 (lvL i) [] h := by
  obtain ⟨v0, P0, Q0, c1, c2, c3⟩ := (Same.to2 i0 (o_weakest i0 ))
  refine g_aload_1 (M := mL_law) Y.1 dL_law_543 ?_
  refine g_callV (M := mL_law) Y.1 (M' := mX7_weakest) (as := []) (st := []) dL_law_544 ml_L_67 mo_X7_weakest rfl c1 ⟨Nat.le_of_ble_eq_true rfl, Nat.le_of_ble_eq_true rfl⟩ hce rfl rfl rfl (fun v h1 q => ?_)
  obtain ⟨⟨rfl, p1⟩, ty⟩ := q
  obtain ⟨x0, hx0⟩ := ty.1 rfl
  cases hx0
  refine g_aload_2 (M := mL_law) Y.1 dL_law_547 ?_
  refine g_callV (M := mL_law) Y.1 (M' := mX8_weakest) (as := []) (st := [.int x0]) dL_law_548 ml_L_70 mo_X8_weakest rfl (c2 h1 p1) ⟨Nat.le_of_ble_eq_true rfl, Nat.le_of_ble_eq_true rfl⟩ hce rfl rfl rfl (fun v h2 q => ?_)
  obtain ⟨⟨rfl, p2⟩, -⟩ := q
  refine g_icmp_eq (M := mL_law) Y.1 1337 dL_law_551 (by decide) (fun _ => ?_) (fun q => absurd rfl q)
  exact g_widen (M := mL_law) (Nat.le_add_right _ _) (Nat.le_add_right _ _) (K h2 (c3 h1 h2 p1 p2))
theorem lc_ring (Y : LC p l s m args meth c D cA tys A ad L xs) (hi : i + 6 ≤ L) (hce : ce ≤ room_1.cells ∧ sl ≤ room_1.slots) (i0 : INV h) (K : ∀ h', INV h' → GT p l e room_1 s m args below meth c D cA A ad (ce + 1) (sl + 6) Qe 7 1337 (lvL i) [] h') : GT p l e room_1 s m args below meth c D cA A ad ce sl Qe 7 556 (lvL i) [] h := by
  obtain ⟨v0, P0, Q0, c1, c2, c3⟩ := (Same.to2 i0 (o_ring i0 ((xs (i + 1))) ((xs (i + 2)))))
  refine g_aload_1 (M := mL_law) Y.1 dL_law_556 ?_
  refine l_arg Y 1 dL_law_557 dL_law_558 dL_law_560 (by decide) dL_law_561 dL_law_562 hi (by decide) ?_
  refine l_arg Y 2 dL_law_563 dL_law_564 dL_law_566 (by decide) dL_law_567 dL_law_568 hi (by decide) ?_
  refine g_callV (M := mL_law) Y.1 (M' := mX7_ring) (as := [.int (xs (i + 1)), .int (xs (i + 2))]) (st := []) dL_law_569 ml_L_71 mo_X7_ring rfl c1 ⟨Nat.le_of_ble_eq_true rfl, Nat.le_of_ble_eq_true rfl⟩ hce rfl rfl rfl (fun v h1 q => ?_)
  obtain ⟨⟨rfl, p1⟩, ty⟩ := q
  obtain ⟨x0, hx0⟩ := ty.1 rfl
  cases hx0
  refine g_aload_2 (M := mL_law) Y.1 dL_law_572 ?_
  refine l_arg Y 1 dL_law_573 dL_law_574 dL_law_576 (by decide) dL_law_577 dL_law_578 hi (by decide) ?_
  refine l_arg Y 2 dL_law_579 dL_law_580 dL_law_582 (by decide) dL_law_583 dL_law_584 hi (by decide) ?_
  refine g_callV (M := mL_law) Y.1 (M' := mX8_ring) (as := [.int (xs (i + 1)), .int (xs (i + 2))]) (st := [.int x0]) dL_law_585 ml_L_74 mo_X8_ring rfl (c2 h1 p1) ⟨Nat.le_of_ble_eq_true rfl, Nat.le_of_ble_eq_true rfl⟩ hce rfl rfl rfl (fun v h2 q => ?_)
  obtain ⟨⟨rfl, p2⟩, -⟩ := q
  refine g_icmp_eq (M := mL_law) Y.1 1337 dL_law_588 (by decide) (fun _ => ?_) (fun q => absurd rfl q)
  exact g_widen (M := mL_law) (Nat.le_add_right _ _) (Nat.le_add_right _ _) (K h2 (c3 h1 h2 p1 p2))
theorem lc_sum (Y : LC p l s m args meth c D cA tys A ad L xs) (hi : i + 6 ≤ L) (hce : ce ≤ room_1.cells ∧ sl ≤ room_1.slots) (i0 : INV h) (K : ∀ h', INV h' → GT p l e room_1 s m args below meth c D cA A ad (ce + 1) (sl + 6) Qe 7 1337 (lvL i) [] h') : GT p l e room_1 s m args below meth c D cA A ad ce sl Qe 7 593 (lvL i) [] h := by
  obtain ⟨v0, P0, Q0, c1, c2, c3⟩ := (Same.to2 i0 (o_sum i0 ((xs (i + 1))) ((xs (i + 2)))))
  refine g_aload_1 (M := mL_law) Y.1 dL_law_593 ?_
  refine l_arg Y 1 dL_law_594 dL_law_595 dL_law_597 (by decide) dL_law_598 dL_law_599 hi (by decide) ?_
  refine l_arg Y 2 dL_law_600 dL_law_601 dL_law_603 (by decide) dL_law_604 dL_law_605 hi (by decide) ?_
  refine g_callV (M := mL_law) Y.1 (M' := mX7_sum) (as := [.int (xs (i + 1)), .int (xs (i + 2))]) (st := []) dL_law_606 ml_L_75 mo_X7_sum rfl c1 ⟨Nat.le_of_ble_eq_true rfl, Nat.le_of_ble_eq_true rfl⟩ hce rfl rfl rfl (fun v h1 q => ?_)
  obtain ⟨⟨rfl, p1⟩, ty⟩ := q
  obtain ⟨x0, hx0⟩ := ty.2 rfl
  cases hx0
  refine g_aload_2 (M := mL_law) Y.1 dL_law_609 ?_
  refine l_arg Y 1 dL_law_610 dL_law_611 dL_law_613 (by decide) dL_law_614 dL_law_615 hi (by decide) ?_
  refine l_arg Y 2 dL_law_616 dL_law_617 dL_law_619 (by decide) dL_law_620 dL_law_621 hi (by decide) ?_
  refine g_callV (M := mL_law) Y.1 (M' := mX8_sum) (as := [.int (xs (i + 1)), .int (xs (i + 2))]) (st := [.long x0]) dL_law_622 ml_L_79 mo_X8_sum rfl (c2 h1 p1) ⟨Nat.le_of_ble_eq_true rfl, Nat.le_of_ble_eq_true rfl⟩ hce rfl rfl rfl (fun v h2 q => ?_)
  obtain ⟨⟨rfl, p2⟩, -⟩ := q
  refine g_lcmp (M := mL_law) Y.1 dL_law_625 ?_
  refine g_if_eq (M := mL_law) Y.1 1337 dL_law_626 (by decide) (fun _ => ?_) (fun q => absurd (cmp_rf x0) q)
  exact g_widen (M := mL_law) (Nat.le_add_right _ _) (Nat.le_add_right _ _) (K h2 (c3 h1 h2 p1 p2))
theorem lc_early (Y : LC p l s m args meth c D cA tys A ad L xs) (hi : i + 6 ≤ L) (hce : ce ≤ room_1.cells ∧ sl ≤ room_1.slots) (i0 : INV h) (K : ∀ h', INV h' → GT p l e room_1 s m args below meth c D cA A ad (ce + 1) (sl + 6) Qe 7 1337 (lvL i) [] h') : GT p l e room_1 s m args below meth c D cA A ad ce sl Qe 7 631 (lvL i) [] h := by
  obtain ⟨v0, P0, Q0, c1, c2, c3⟩ := (o_early i0 ((xs (i + 1))) ((xs (i + 2))))
  refine g_aload_1 (M := mL_law) Y.1 dL_law_631 ?_
  refine l_arg Y 1 dL_law_632 dL_law_633 dL_law_635 (by decide) dL_law_636 dL_law_637 hi (by decide) ?_
  refine l_arg Y 2 dL_law_638 dL_law_639 dL_law_641 (by decide) dL_law_642 dL_law_643 hi (by decide) ?_
  refine g_callV (M := mL_law) Y.1 (M' := mX7_early) (as := [.int (xs (i + 1)), .int (xs (i + 2))]) (st := []) dL_law_644 ml_L_80 mo_X7_early rfl c1 ⟨Nat.le_of_ble_eq_true rfl, Nat.le_of_ble_eq_true rfl⟩ hce rfl rfl rfl (fun v h1 q => ?_)
  obtain ⟨⟨rfl, p1⟩, ty⟩ := q
  obtain ⟨x0, hx0⟩ := ty.2 rfl
  cases hx0
  refine g_aload_2 (M := mL_law) Y.1 dL_law_647 ?_
  refine l_arg Y 1 dL_law_648 dL_law_649 dL_law_651 (by decide) dL_law_652 dL_law_653 hi (by decide) ?_
  refine l_arg Y 2 dL_law_654 dL_law_655 dL_law_657 (by decide) dL_law_658 dL_law_659 hi (by decide) ?_
  refine g_callV (M := mL_law) Y.1 (M' := mX8_early) (as := [.int (xs (i + 1)), .int (xs (i + 2))]) (st := [.long x0]) dL_law_660 ml_L_83 mo_X8_early rfl (c2 h1 p1) ⟨Nat.le_of_ble_eq_true rfl, Nat.le_of_ble_eq_true rfl⟩ hce rfl rfl rfl (fun v h2 q => ?_)
  obtain ⟨⟨rfl, p2⟩, -⟩ := q
  refine g_lcmp (M := mL_law) Y.1 dL_law_663 ?_
  refine g_if_eq (M := mL_law) Y.1 1337 dL_law_664 (by decide) (fun _ => ?_) (fun q => absurd (cmp_rf x0) q)
  exact g_widen (M := mL_law) (Nat.le_add_right _ _) (Nat.le_add_right _ _) (K h2 (c3 h1 h2 p1 p2))
theorem lc_work (Y : LC p l s m args meth c D cA tys A ad L xs) (hi : i + 6 ≤ L) (hce : ce ≤ room_1.cells ∧ sl ≤ room_1.slots) (i0 : INV h) (K : ∀ h', INV h' → GT p l e room_1 s m args below meth c D cA A ad (ce + 1) (sl + 6) Qe 7 1337 (lvL i) [] h') : GT p l e room_1 s m args below meth c D cA A ad ce sl Qe 7 669 (lvL i) [] h := by
  obtain ⟨v0, P0, Q0, c1, c2, c3⟩ := (Same.to2 i0 (o_work i0 ))
  refine g_aload_1 (M := mL_law) Y.1 dL_law_669 ?_
  refine g_callV (M := mL_law) Y.1 (M' := mX7_work) (as := []) (st := []) dL_law_670 ml_L_84 mo_X7_work rfl c1 ⟨Nat.le_of_ble_eq_true rfl, Nat.le_of_ble_eq_true rfl⟩ hce rfl rfl rfl (fun v h1 q => ?_)
  obtain ⟨⟨rfl, p1⟩, ty⟩ := q
  obtain ⟨x0, hx0⟩ := ty.2 rfl
  cases hx0
  refine g_aload_2 (M := mL_law) Y.1 dL_law_673 ?_
  refine g_callV (M := mL_law) Y.1 (M' := mX8_work) (as := []) (st := [.long x0]) dL_law_674 ml_L_88 mo_X8_work rfl (c2 h1 p1) ⟨Nat.le_of_ble_eq_true rfl, Nat.le_of_ble_eq_true rfl⟩ hce rfl rfl rfl (fun v h2 q => ?_)
  obtain ⟨⟨rfl, p2⟩, -⟩ := q
  refine g_lcmp (M := mL_law) Y.1 dL_law_677 ?_
  refine g_if_eq (M := mL_law) Y.1 1337 dL_law_678 (by decide) (fun _ => ?_) (fun q => absurd (cmp_rf x0) q)
  exact g_widen (M := mL_law) (Nat.le_add_right _ _) (Nat.le_add_right _ _) (K h2 (c3 h1 h2 p1 p2))
theorem lc_gap (Y : LC p l s m args meth c D cA tys A ad L xs) (hi : i + 6 ≤ L) (hce : ce ≤ room_1.cells ∧ sl ≤ room_1.slots) (i0 : INV h) (K : ∀ h', INV h' → GT p l e room_1 s m args below meth c D cA A ad (ce + 1) (sl + 6) Qe 7 1337 (lvL i) [] h') : GT p l e room_1 s m args below meth c D cA A ad ce sl Qe 7 683 (lvL i) [] h := by
  obtain ⟨v0, P0, Q0, c1, c2, c3⟩ := (o_gap i0 ((xs (i + 1))))
  refine g_aload_1 (M := mL_law) Y.1 dL_law_683 ?_
  refine l_arg Y 1 dL_law_684 dL_law_685 dL_law_687 (by decide) dL_law_688 dL_law_689 hi (by decide) ?_
  refine g_callV (M := mL_law) Y.1 (M' := mX7_gap) (as := [.int (xs (i + 1))]) (st := []) dL_law_690 ml_L_89 mo_X7_gap rfl c1 ⟨Nat.le_of_ble_eq_true rfl, Nat.le_of_ble_eq_true rfl⟩ hce rfl rfl rfl (fun v h1 q => ?_)
  obtain ⟨⟨rfl, p1⟩, ty⟩ := q
  obtain ⟨x0, hx0⟩ := ty.2 rfl
  cases hx0
  refine g_aload_2 (M := mL_law) Y.1 dL_law_693 ?_
  refine l_arg Y 1 dL_law_694 dL_law_695 dL_law_697 (by decide) dL_law_698 dL_law_699 hi (by decide) ?_
  refine g_callV (M := mL_law) Y.1 (M' := mX8_gap) (as := [.int (xs (i + 1))]) (st := [.long x0]) dL_law_700 ml_L_92 mo_X8_gap rfl (c2 h1 p1) ⟨Nat.le_of_ble_eq_true rfl, Nat.le_of_ble_eq_true rfl⟩ hce rfl rfl rfl (fun v h2 q => ?_)
  obtain ⟨⟨rfl, p2⟩, -⟩ := q
  refine g_lcmp (M := mL_law) Y.1 dL_law_703 ?_
  refine g_if_eq (M := mL_law) Y.1 1337 dL_law_704 (by decide) (fun _ => ?_) (fun q => absurd (cmp_rf x0) q)
  exact g_widen (M := mL_law) (Nat.le_add_right _ _) (Nat.le_add_right _ _) (K h2 (c3 h1 h2 p1 p2))
theorem lc_balance (Y : LC p l s m args meth c D cA tys A ad L xs) (hi : i + 6 ≤ L) (hce : ce ≤ room_1.cells ∧ sl ≤ room_1.slots) (i0 : INV h) (K : ∀ h', INV h' → GT p l e room_1 s m args below meth c D cA A ad (ce + 1) (sl + 6) Qe 7 1337 (lvL i) [] h') : GT p l e room_1 s m args below meth c D cA A ad ce sl Qe 7 709 (lvL i) [] h := by
  obtain ⟨v0, P0, Q0, c1, c2, c3⟩ := (Same.to2 i0 (o_balance i0 ((xs (i + 1)))))
  refine g_aload_1 (M := mL_law) Y.1 dL_law_709 ?_
  refine l_arg Y 1 dL_law_710 dL_law_711 dL_law_713 (by decide) dL_law_714 dL_law_715 hi (by decide) ?_
  refine g_callV (M := mL_law) Y.1 (M' := mX7_balance) (as := [.int (xs (i + 1))]) (st := []) dL_law_716 ml_L_93 mo_X7_balance rfl c1 ⟨Nat.le_of_ble_eq_true rfl, Nat.le_of_ble_eq_true rfl⟩ hce rfl rfl rfl (fun v h1 q => ?_)
  obtain ⟨⟨rfl, p1⟩, ty⟩ := q
  obtain ⟨x0, hx0⟩ := ty.2 rfl
  cases hx0
  refine g_aload_2 (M := mL_law) Y.1 dL_law_719 ?_
  refine l_arg Y 1 dL_law_720 dL_law_721 dL_law_723 (by decide) dL_law_724 dL_law_725 hi (by decide) ?_
  refine g_callV (M := mL_law) Y.1 (M' := mX8_balance) (as := [.int (xs (i + 1))]) (st := [.long x0]) dL_law_726 ml_L_96 mo_X8_balance rfl (c2 h1 p1) ⟨Nat.le_of_ble_eq_true rfl, Nat.le_of_ble_eq_true rfl⟩ hce rfl rfl rfl (fun v h2 q => ?_)
  obtain ⟨⟨rfl, p2⟩, -⟩ := q
  refine g_lcmp (M := mL_law) Y.1 dL_law_729 ?_
  refine g_if_eq (M := mL_law) Y.1 1337 dL_law_730 (by decide) (fun _ => ?_) (fun q => absurd (cmp_rf x0) q)
  exact g_widen (M := mL_law) (Nat.le_add_right _ _) (Nat.le_add_right _ _) (K h2 (c3 h1 h2 p1 p2))
theorem lc_lossAt (Y : LC p l s m args meth c D cA tys A ad L xs) (hi : i + 6 ≤ L) (hce : ce ≤ room_1.cells ∧ sl ≤ room_1.slots) (i0 : INV h) (K : ∀ h', INV h' → GT p l e room_1 s m args below meth c D cA A ad (ce + 1) (sl + 6) Qe 7 1337 (lvL i) [] h') : GT p l e room_1 s m args below meth c D cA A ad ce sl Qe 7 735 (lvL i) [] h := by
  obtain ⟨v0, P0, Q0, c1, c2, c3⟩ := (Same.to2 i0 (o_lossAt i0 ((xs (i + 1))) ((xs (i + 2))) ((xs (i + 3)))))
  refine g_aload_1 (M := mL_law) Y.1 dL_law_735 ?_
  refine l_arg Y 1 dL_law_736 dL_law_737 dL_law_739 (by decide) dL_law_740 dL_law_741 hi (by decide) ?_
  refine l_arg Y 2 dL_law_742 dL_law_743 dL_law_745 (by decide) dL_law_746 dL_law_747 hi (by decide) ?_
  refine l_arg Y 3 dL_law_748 dL_law_749 dL_law_751 (by decide) dL_law_752 dL_law_753 hi (by decide) ?_
  refine g_callV (M := mL_law) Y.1 (M' := mX7_lossAt) (as := [.int (xs (i + 1)), .int (xs (i + 2)), .int (xs (i + 3))]) (st := []) dL_law_754 ml_L_97 mo_X7_lossAt rfl c1 ⟨Nat.le_of_ble_eq_true rfl, Nat.le_of_ble_eq_true rfl⟩ hce rfl rfl rfl (fun v h1 q => ?_)
  obtain ⟨⟨rfl, p1⟩, ty⟩ := q
  obtain ⟨x0, hx0⟩ := ty.2 rfl
  cases hx0
  refine g_aload_2 (M := mL_law) Y.1 dL_law_757 ?_
  refine l_arg Y 1 dL_law_758 dL_law_759 dL_law_761 (by decide) dL_law_762 dL_law_763 hi (by decide) ?_
  refine l_arg Y 2 dL_law_764 dL_law_765 dL_law_767 (by decide) dL_law_768 dL_law_769 hi (by decide) ?_
  refine l_arg Y 3 dL_law_770 dL_law_771 dL_law_773 (by decide) dL_law_774 dL_law_775 hi (by decide) ?_
  refine g_callV (M := mL_law) Y.1 (M' := mX8_lossAt) (as := [.int (xs (i + 1)), .int (xs (i + 2)), .int (xs (i + 3))]) (st := [.long x0]) dL_law_776 ml_L_101 mo_X8_lossAt rfl (c2 h1 p1) ⟨Nat.le_of_ble_eq_true rfl, Nat.le_of_ble_eq_true rfl⟩ hce rfl rfl rfl (fun v h2 q => ?_)
  obtain ⟨⟨rfl, p2⟩, -⟩ := q
  refine g_lcmp (M := mL_law) Y.1 dL_law_779 ?_
  refine g_if_eq (M := mL_law) Y.1 1337 dL_law_780 (by decide) (fun _ => ?_) (fun q => absurd (cmp_rf x0) q)
  exact g_widen (M := mL_law) (Nat.le_add_right _ _) (Nat.le_add_right _ _) (K h2 (c3 h1 h2 p1 p2))
theorem lc_behind (Y : LC p l s m args meth c D cA tys A ad L xs) (hi : i + 6 ≤ L) (hce : ce ≤ room_1.cells ∧ sl ≤ room_1.slots) (i0 : INV h) (K : ∀ h', INV h' → GT p l e room_1 s m args below meth c D cA A ad (ce + 1) (sl + 6) Qe 7 1337 (lvL i) [] h') : GT p l e room_1 s m args below meth c D cA A ad ce sl Qe 7 785 (lvL i) [] h := by
  obtain ⟨v0, P0, Q0, c1, c2, c3⟩ := (Same.to2 i0 (o_behind i0 ((xs (i + 1)))))
  refine g_aload_1 (M := mL_law) Y.1 dL_law_785 ?_
  refine l_arg Y 1 dL_law_786 dL_law_787 dL_law_789 (by decide) dL_law_790 dL_law_791 hi (by decide) ?_
  refine g_callV (M := mL_law) Y.1 (M' := mX7_behind) (as := [.int (xs (i + 1))]) (st := []) dL_law_792 ml_L_102 mo_X7_behind rfl c1 ⟨Nat.le_of_ble_eq_true rfl, Nat.le_of_ble_eq_true rfl⟩ hce rfl rfl rfl (fun v h1 q => ?_)
  obtain ⟨⟨rfl, p1⟩, ty⟩ := q
  obtain ⟨x0, hx0⟩ := ty.1 rfl
  cases hx0
  refine g_aload_2 (M := mL_law) Y.1 dL_law_795 ?_
  refine l_arg Y 1 dL_law_796 dL_law_797 dL_law_799 (by decide) dL_law_800 dL_law_801 hi (by decide) ?_
  refine g_callV (M := mL_law) Y.1 (M' := mX8_behind) (as := [.int (xs (i + 1))]) (st := [.int x0]) dL_law_802 ml_L_105 mo_X8_behind rfl (c2 h1 p1) ⟨Nat.le_of_ble_eq_true rfl, Nat.le_of_ble_eq_true rfl⟩ hce rfl rfl rfl (fun v h2 q => ?_)
  obtain ⟨⟨rfl, p2⟩, -⟩ := q
  refine g_icmp_eq (M := mL_law) Y.1 1337 dL_law_805 (by decide) (fun _ => ?_) (fun q => absurd rfl q)
  exact g_widen (M := mL_law) (Nat.le_add_right _ _) (Nat.le_add_right _ _) (K h2 (c3 h1 h2 p1 p2))
theorem lc_scaled (Y : LC p l s m args meth c D cA tys A ad L xs) (hi : i + 6 ≤ L) (hce : ce ≤ room_1.cells ∧ sl ≤ room_1.slots) (i0 : INV h) (K : ∀ h', INV h' → GT p l e room_1 s m args below meth c D cA A ad (ce + 1) (sl + 6) Qe 7 1337 (lvL i) [] h') : GT p l e room_1 s m args below meth c D cA A ad ce sl Qe 7 810 (lvL i) [] h := by
  obtain ⟨v0, P0, Q0, c1, c2, c3⟩ := (o_scaled i0 ((xs (i + 1))))
  refine g_aload_1 (M := mL_law) Y.1 dL_law_810 ?_
  refine l_arg Y 1 dL_law_811 dL_law_812 dL_law_814 (by decide) dL_law_815 dL_law_816 hi (by decide) ?_
  refine g_callV (M := mL_law) Y.1 (M' := mX7_scaled) (as := [.int (xs (i + 1))]) (st := []) dL_law_817 ml_L_106 mo_X7_scaled rfl c1 ⟨Nat.le_of_ble_eq_true rfl, Nat.le_of_ble_eq_true rfl⟩ hce rfl rfl rfl (fun v h1 q => ?_)
  obtain ⟨⟨rfl, p1⟩, ty⟩ := q
  obtain ⟨x0, hx0⟩ := ty.2 rfl
  cases hx0
  refine g_aload_2 (M := mL_law) Y.1 dL_law_820 ?_
  refine l_arg Y 1 dL_law_821 dL_law_822 dL_law_824 (by decide) dL_law_825 dL_law_826 hi (by decide) ?_
  refine g_callV (M := mL_law) Y.1 (M' := mX8_scaled) (as := [.int (xs (i + 1))]) (st := [.long x0]) dL_law_827 ml_L_109 mo_X8_scaled rfl (c2 h1 p1) ⟨Nat.le_of_ble_eq_true rfl, Nat.le_of_ble_eq_true rfl⟩ hce rfl rfl rfl (fun v h2 q => ?_)
  obtain ⟨⟨rfl, p2⟩, -⟩ := q
  refine g_lcmp (M := mL_law) Y.1 dL_law_830 ?_
  refine g_if_eq (M := mL_law) Y.1 1337 dL_law_831 (by decide) (fun _ => ?_) (fun q => absurd (cmp_rf x0) q)
  exact g_widen (M := mL_law) (Nat.le_add_right _ _) (Nat.le_add_right _ _) (K h2 (c3 h1 h2 p1 p2))
theorem lc_most (Y : LC p l s m args meth c D cA tys A ad L xs) (hi : i + 6 ≤ L) (hce : ce ≤ room_1.cells ∧ sl ≤ room_1.slots) (i0 : INV h) (K : ∀ h', INV h' → GT p l e room_1 s m args below meth c D cA A ad (ce + 1) (sl + 6) Qe 7 1337 (lvL i) [] h') : GT p l e room_1 s m args below meth c D cA A ad ce sl Qe 7 836 (lvL i) [] h := by
  obtain ⟨v0, P0, Q0, c1, c2, c3⟩ := (o_most i0 ((xs (i + 1))))
  refine g_aload_1 (M := mL_law) Y.1 dL_law_836 ?_
  refine l_arg Y 1 dL_law_837 dL_law_838 dL_law_840 (by decide) dL_law_841 dL_law_842 hi (by decide) ?_
  refine g_callV (M := mL_law) Y.1 (M' := mX7_most) (as := [.int (xs (i + 1))]) (st := []) dL_law_843 ml_L_110 mo_X7_most rfl c1 ⟨Nat.le_of_ble_eq_true rfl, Nat.le_of_ble_eq_true rfl⟩ hce rfl rfl rfl (fun v h1 q => ?_)
  obtain ⟨⟨rfl, p1⟩, ty⟩ := q
  obtain ⟨x0, hx0⟩ := ty.1 rfl
  cases hx0
  refine g_aload_2 (M := mL_law) Y.1 dL_law_846 ?_
  refine l_arg Y 1 dL_law_847 dL_law_848 dL_law_850 (by decide) dL_law_851 dL_law_852 hi (by decide) ?_
  refine g_callV (M := mL_law) Y.1 (M' := mX8_most) (as := [.int (xs (i + 1))]) (st := [.int x0]) dL_law_853 ml_L_113 mo_X8_most rfl (c2 h1 p1) ⟨Nat.le_of_ble_eq_true rfl, Nat.le_of_ble_eq_true rfl⟩ hce rfl rfl rfl (fun v h2 q => ?_)
  obtain ⟨⟨rfl, p2⟩, -⟩ := q
  refine g_icmp_eq (M := mL_law) Y.1 1337 dL_law_856 (by decide) (fun _ => ?_) (fun q => absurd rfl q)
  exact g_widen (M := mL_law) (Nat.le_add_right _ _) (Nat.le_add_right _ _) (K h2 (c3 h1 h2 p1 p2))
theorem lc_pairs (Y : LC p l s m args meth c D cA tys A ad L xs) (hi : i + 6 ≤ L) (hce : ce ≤ room_1.cells ∧ sl ≤ room_1.slots) (i0 : INV h) (K : ∀ h', INV h' → GT p l e room_1 s m args below meth c D cA A ad (ce + 1) (sl + 6) Qe 7 1337 (lvL i) [] h') : GT p l e room_1 s m args below meth c D cA A ad ce sl Qe 7 861 (lvL i) [] h := by
  obtain ⟨v0, P0, Q0, c1, c2, c3⟩ := (o_pairs i0 )
  refine g_aload_1 (M := mL_law) Y.1 dL_law_861 ?_
  refine g_callV (M := mL_law) Y.1 (M' := mX7_pairs) (as := []) (st := []) dL_law_862 ml_L_114 mo_X7_pairs rfl c1 ⟨Nat.le_of_ble_eq_true rfl, Nat.le_of_ble_eq_true rfl⟩ hce rfl rfl rfl (fun v h1 q => ?_)
  obtain ⟨⟨rfl, p1⟩, ty⟩ := q
  obtain ⟨x0, hx0⟩ := ty.1 rfl
  cases hx0
  refine g_aload_2 (M := mL_law) Y.1 dL_law_865 ?_
  refine g_callV (M := mL_law) Y.1 (M' := mX8_pairs) (as := []) (st := [.int x0]) dL_law_866 ml_L_117 mo_X8_pairs rfl (c2 h1 p1) ⟨Nat.le_of_ble_eq_true rfl, Nat.le_of_ble_eq_true rfl⟩ hce rfl rfl rfl (fun v h2 q => ?_)
  obtain ⟨⟨rfl, p2⟩, -⟩ := q
  refine g_icmp_eq (M := mL_law) Y.1 1337 dL_law_869 (by decide) (fun _ => ?_) (fun q => absurd rfl q)
  exact g_widen (M := mL_law) (Nat.le_add_right _ _) (Nat.le_add_right _ _) (K h2 (c3 h1 h2 p1 p2))
theorem lc_fire (Y : LC p l s m args meth c D cA tys A ad L xs) (hi : i + 6 ≤ L) (hce : ce ≤ room_1.cells ∧ sl ≤ room_1.slots) (i0 : INV h) (K : ∀ h', INV h' → GT p l e room_1 s m args below meth c D cA A ad (ce + 1) (sl + 6) Qe 7 1337 (lvL i) [] h') : GT p l e room_1 s m args below meth c D cA A ad ce sl Qe 7 874 (lvL i) [] h := by
  obtain ⟨v0, P0, Q0, c1, c2, c3⟩ := (o_fire i0 ((xs (i + 1))) ((xs (i + 2))))
  refine g_aload_1 (M := mL_law) Y.1 dL_law_874 ?_
  refine l_arg Y 1 dL_law_875 dL_law_876 dL_law_878 (by decide) dL_law_879 dL_law_880 hi (by decide) ?_
  refine l_arg Y 2 dL_law_881 dL_law_882 dL_law_884 (by decide) dL_law_885 dL_law_886 hi (by decide) ?_
  refine g_callV (M := mL_law) Y.1 (M' := mX7_fire) (as := [.int (xs (i + 1)), .int (xs (i + 2))]) (st := []) dL_law_887 ml_L_118 mo_X7_fire rfl c1 ⟨Nat.le_of_ble_eq_true rfl, Nat.le_of_ble_eq_true rfl⟩ hce rfl rfl rfl (fun v h1 q => ?_)
  obtain ⟨⟨rfl, p1⟩, ty⟩ := q
  obtain ⟨x0, hx0⟩ := ty.1 rfl
  cases hx0
  refine g_aload_2 (M := mL_law) Y.1 dL_law_890 ?_
  refine l_arg Y 1 dL_law_891 dL_law_892 dL_law_894 (by decide) dL_law_895 dL_law_896 hi (by decide) ?_
  refine l_arg Y 2 dL_law_897 dL_law_898 dL_law_900 (by decide) dL_law_901 dL_law_902 hi (by decide) ?_
  refine g_callV (M := mL_law) Y.1 (M' := mX8_fire) (as := [.int (xs (i + 1)), .int (xs (i + 2))]) (st := [.int x0]) dL_law_903 ml_L_121 mo_X8_fire rfl (c2 h1 p1) ⟨Nat.le_of_ble_eq_true rfl, Nat.le_of_ble_eq_true rfl⟩ hce rfl rfl rfl (fun v h2 q => ?_)
  obtain ⟨⟨rfl, p2⟩, -⟩ := q
  refine g_icmp_eq (M := mL_law) Y.1 1337 dL_law_906 (by decide) (fun _ => ?_) (fun q => absurd rfl q)
  exact g_widen (M := mL_law) (Nat.le_add_right _ _) (Nat.le_add_right _ _) (K h2 (c3 h1 h2 p1 p2))
theorem lc_cut (Y : LC p l s m args meth c D cA tys A ad L xs) (hi : i + 6 ≤ L) (hce : ce ≤ room_1.cells ∧ sl ≤ room_1.slots) (i0 : INV h) (K : ∀ h', INV h' → GT p l e room_1 s m args below meth c D cA A ad (ce + 1) (sl + 6) Qe 7 1337 (lvL i) [] h') : GT p l e room_1 s m args below meth c D cA A ad ce sl Qe 7 911 (lvL i) [] h := by
  obtain ⟨v0, P0, Q0, c1, c2, c3⟩ := (o_cut i0 ((xs (i + 1))))
  refine g_aload_1 (M := mL_law) Y.1 dL_law_911 ?_
  refine l_arg Y 1 dL_law_912 dL_law_913 dL_law_915 (by decide) dL_law_916 dL_law_917 hi (by decide) ?_
  refine g_callV (M := mL_law) Y.1 (M' := mX7_cut) (as := [.int (xs (i + 1))]) (st := []) dL_law_918 ml_L_122 mo_X7_cut rfl c1 ⟨Nat.le_of_ble_eq_true rfl, Nat.le_of_ble_eq_true rfl⟩ hce rfl rfl rfl (fun v h1 q => ?_)
  obtain ⟨⟨rfl, p1⟩, ty⟩ := q
  obtain ⟨x0, hx0⟩ := ty.1 rfl
  cases hx0
  refine g_aload_2 (M := mL_law) Y.1 dL_law_921 ?_
  refine l_arg Y 1 dL_law_922 dL_law_923 dL_law_925 (by decide) dL_law_926 dL_law_927 hi (by decide) ?_
  refine g_callV (M := mL_law) Y.1 (M' := mX8_cut) (as := [.int (xs (i + 1))]) (st := [.int x0]) dL_law_928 ml_L_125 mo_X8_cut rfl (c2 h1 p1) ⟨Nat.le_of_ble_eq_true rfl, Nat.le_of_ble_eq_true rfl⟩ hce rfl rfl rfl (fun v h2 q => ?_)
  obtain ⟨⟨rfl, p2⟩, -⟩ := q
  refine g_icmp_eq (M := mL_law) Y.1 1337 dL_law_931 (by decide) (fun _ => ?_) (fun q => absurd rfl q)
  exact g_widen (M := mL_law) (Nat.le_add_right _ _) (Nat.le_add_right _ _) (K h2 (c3 h1 h2 p1 p2))
theorem lc_vital (Y : LC p l s m args meth c D cA tys A ad L xs) (hi : i + 6 ≤ L) (hce : ce ≤ room_1.cells ∧ sl ≤ room_1.slots) (i0 : INV h) (K : ∀ h', INV h' → GT p l e room_1 s m args below meth c D cA A ad (ce + 1) (sl + 6) Qe 7 1337 (lvL i) [] h') : GT p l e room_1 s m args below meth c D cA A ad ce sl Qe 7 936 (lvL i) [] h := by
  obtain ⟨v0, P0, Q0, c1, c2, c3⟩ := (o_vital i0 )
  refine g_aload_1 (M := mL_law) Y.1 dL_law_936 ?_
  refine g_callV (M := mL_law) Y.1 (M' := mX7_vital) (as := []) (st := []) dL_law_937 ml_L_126 mo_X7_vital rfl c1 ⟨Nat.le_of_ble_eq_true rfl, Nat.le_of_ble_eq_true rfl⟩ hce rfl rfl rfl (fun v h1 q => ?_)
  obtain ⟨⟨rfl, p1⟩, ty⟩ := q
  obtain ⟨x0, hx0⟩ := ty.1 rfl
  cases hx0
  refine g_aload_2 (M := mL_law) Y.1 dL_law_940 ?_
  refine g_callV (M := mL_law) Y.1 (M' := mX8_vital) (as := []) (st := [.int x0]) dL_law_941 ml_L_129 mo_X8_vital rfl (c2 h1 p1) ⟨Nat.le_of_ble_eq_true rfl, Nat.le_of_ble_eq_true rfl⟩ hce rfl rfl rfl (fun v h2 q => ?_)
  obtain ⟨⟨rfl, p2⟩, -⟩ := q
  refine g_icmp_eq (M := mL_law) Y.1 1337 dL_law_944 (by decide) (fun _ => ?_) (fun q => absurd rfl q)
  exact g_widen (M := mL_law) (Nat.le_add_right _ _) (Nat.le_add_right _ _) (K h2 (c3 h1 h2 p1 p2))
theorem lc_widen (Y : LC p l s m args meth c D cA tys A ad L xs) (hi : i + 6 ≤ L) (hce : ce ≤ room_1.cells ∧ sl ≤ room_1.slots) (i0 : INV h) (K : ∀ h', INV h' → GT p l e room_1 s m args below meth c D cA A ad (ce + 1) (sl + 6) Qe 7 1337 (lvL i) [] h') : GT p l e room_1 s m args below meth c D cA A ad ce sl Qe 7 949 (lvL i) [] h := by
  obtain ⟨v0, P0, Q0, c1, c2, c3⟩ := (o_widen i0 )
  refine g_aload_1 (M := mL_law) Y.1 dL_law_949 ?_
  refine g_callV (M := mL_law) Y.1 (M' := mX7_widen) (as := []) (st := []) dL_law_950 ml_L_130 mo_X7_widen rfl c1 ⟨Nat.le_of_ble_eq_true rfl, Nat.le_of_ble_eq_true rfl⟩ hce rfl rfl rfl (fun v h1 q => ?_)
  obtain ⟨⟨rfl, p1⟩, ty⟩ := q
  obtain ⟨x0, hx0⟩ := ty.1 rfl
  cases hx0
  refine g_aload_2 (M := mL_law) Y.1 dL_law_953 ?_
  refine g_callV (M := mL_law) Y.1 (M' := mX8_widen) (as := []) (st := [.int x0]) dL_law_954 ml_L_133 mo_X8_widen rfl (c2 h1 p1) ⟨Nat.le_of_ble_eq_true rfl, Nat.le_of_ble_eq_true rfl⟩ hce rfl rfl rfl (fun v h2 q => ?_)
  obtain ⟨⟨rfl, p2⟩, -⟩ := q
  refine g_icmp_eq (M := mL_law) Y.1 1337 dL_law_957 (by decide) (fun _ => ?_) (fun q => absurd rfl q)
  exact g_widen (M := mL_law) (Nat.le_add_right _ _) (Nat.le_add_right _ _) (K h2 (c3 h1 h2 p1 p2))
theorem lc_widened (Y : LC p l s m args meth c D cA tys A ad L xs) (hi : i + 6 ≤ L) (hce : ce ≤ room_1.cells ∧ sl ≤ room_1.slots) (i0 : INV h) (K : ∀ h', INV h' → GT p l e room_1 s m args below meth c D cA A ad (ce + 1) (sl + 6) Qe 7 1337 (lvL i) [] h') : GT p l e room_1 s m args below meth c D cA A ad ce sl Qe 7 962 (lvL i) [] h := by
  obtain ⟨v0, P0, Q0, c1, c2, c3⟩ := (o_widened i0 )
  refine g_aload_1 (M := mL_law) Y.1 dL_law_962 ?_
  refine g_callV (M := mL_law) Y.1 (M' := mX7_widened) (as := []) (st := []) dL_law_963 ml_L_134 mo_X7_widened rfl c1 ⟨Nat.le_of_ble_eq_true rfl, Nat.le_of_ble_eq_true rfl⟩ hce rfl rfl rfl (fun v h1 q => ?_)
  obtain ⟨⟨rfl, p1⟩, ty⟩ := q
  obtain ⟨x0, hx0⟩ := ty.2 rfl
  cases hx0
  refine g_aload_2 (M := mL_law) Y.1 dL_law_966 ?_
  refine g_callV (M := mL_law) Y.1 (M' := mX8_widened) (as := []) (st := [.long x0]) dL_law_967 ml_L_137 mo_X8_widened rfl (c2 h1 p1) ⟨Nat.le_of_ble_eq_true rfl, Nat.le_of_ble_eq_true rfl⟩ hce rfl rfl rfl (fun v h2 q => ?_)
  obtain ⟨⟨rfl, p2⟩, -⟩ := q
  refine g_lcmp (M := mL_law) Y.1 dL_law_970 ?_
  refine g_if_eq (M := mL_law) Y.1 1337 dL_law_971 (by decide) (fun _ => ?_) (fun q => absurd (cmp_rf x0) q)
  exact g_widen (M := mL_law) (Nat.le_add_right _ _) (Nat.le_add_right _ _) (K h2 (c3 h1 h2 p1 p2))
theorem lc_measure (Y : LC p l s m args meth c D cA tys A ad L xs) (hi : i + 6 ≤ L) (hce : ce ≤ room_1.cells ∧ sl ≤ room_1.slots) (i0 : INV h) (K : ∀ h', INV h' → GT p l e room_1 s m args below meth c D cA A ad (ce + 1) (sl + 6) Qe 7 1337 (lvL i) [] h') : GT p l e room_1 s m args below meth c D cA A ad ce sl Qe 7 976 (lvL i) [] h := by
  obtain ⟨v0, P0, Q0, c1, c2, c3⟩ := (o_measure i0 ((xs (i + 1))) ((xs (i + 2))))
  refine g_aload_1 (M := mL_law) Y.1 dL_law_976 ?_
  refine l_arg Y 1 dL_law_977 dL_law_978 dL_law_980 (by decide) dL_law_981 dL_law_982 hi (by decide) ?_
  refine l_arg Y 2 dL_law_983 dL_law_984 dL_law_986 (by decide) dL_law_987 dL_law_988 hi (by decide) ?_
  refine g_callV (M := mL_law) Y.1 (M' := mX7_measure) (as := [.int (xs (i + 1)), .int (xs (i + 2))]) (st := []) dL_law_989 ml_L_138 mo_X7_measure rfl c1 ⟨Nat.le_of_ble_eq_true rfl, Nat.le_of_ble_eq_true rfl⟩ hce rfl rfl rfl (fun v h1 q => ?_)
  obtain ⟨⟨rfl, p1⟩, ty⟩ := q
  obtain ⟨x0, hx0⟩ := ty.1 rfl
  cases hx0
  refine g_aload_2 (M := mL_law) Y.1 dL_law_992 ?_
  refine l_arg Y 1 dL_law_993 dL_law_994 dL_law_996 (by decide) dL_law_997 dL_law_998 hi (by decide) ?_
  refine l_arg Y 2 dL_law_999 dL_law_1000 dL_law_1002 (by decide) dL_law_1003 dL_law_1004 hi (by decide) ?_
  refine g_callV (M := mL_law) Y.1 (M' := mX8_measure) (as := [.int (xs (i + 1)), .int (xs (i + 2))]) (st := [.int x0]) dL_law_1005 ml_L_141 mo_X8_measure rfl (c2 h1 p1) ⟨Nat.le_of_ble_eq_true rfl, Nat.le_of_ble_eq_true rfl⟩ hce rfl rfl rfl (fun v h2 q => ?_)
  obtain ⟨⟨rfl, p2⟩, -⟩ := q
  refine g_icmp_eq (M := mL_law) Y.1 1337 dL_law_1008 (by decide) (fun _ => ?_) (fun q => absurd rfl q)
  exact g_widen (M := mL_law) (Nat.le_add_right _ _) (Nat.le_add_right _ _) (K h2 (c3 h1 h2 p1 p2))
theorem lc_forget (Y : LC p l s m args meth c D cA tys A ad L xs) (hi : i + 6 ≤ L) (hce : ce ≤ room_1.cells ∧ sl ≤ room_1.slots) (i0 : INV h) (K : ∀ h', INV h' → GT p l e room_1 s m args below meth c D cA A ad (ce + 1) (sl + 6) Qe 7 1337 (lvL i) [] h') : GT p l e room_1 s m args below meth c D cA A ad ce sl Qe 7 1013 (lvL i) [] h := by
  obtain ⟨v0, P0, Q0, c1, c2, c3⟩ := (o_forget i0 )
  refine g_aload_1 (M := mL_law) Y.1 dL_law_1013 ?_
  refine g_callV (M := mL_law) Y.1 (M' := mX7_forget) (as := []) (st := []) dL_law_1014 ml_L_142 mo_X7_forget rfl c1 ⟨Nat.le_of_ble_eq_true rfl, Nat.le_of_ble_eq_true rfl⟩ hce rfl rfl rfl (fun v h1 q => ?_)
  obtain ⟨⟨rfl, p1⟩, ty⟩ := q
  obtain ⟨x0, hx0⟩ := ty.1 rfl
  cases hx0
  refine g_aload_2 (M := mL_law) Y.1 dL_law_1017 ?_
  refine g_callV (M := mL_law) Y.1 (M' := mX8_forget) (as := []) (st := [.int x0]) dL_law_1018 ml_L_145 mo_X8_forget rfl (c2 h1 p1) ⟨Nat.le_of_ble_eq_true rfl, Nat.le_of_ble_eq_true rfl⟩ hce rfl rfl rfl (fun v h2 q => ?_)
  obtain ⟨⟨rfl, p2⟩, -⟩ := q
  refine g_icmp_eq (M := mL_law) Y.1 1337 dL_law_1021 (by decide) (fun _ => ?_) (fun q => absurd rfl q)
  exact g_widen (M := mL_law) (Nat.le_add_right _ _) (Nat.le_add_right _ _) (K h2 (c3 h1 h2 p1 p2))
theorem lc_off (Y : LC p l s m args meth c D cA tys A ad L xs) (hi : i + 6 ≤ L) (hce : ce ≤ room_1.cells ∧ sl ≤ room_1.slots) (i0 : INV h) (K : ∀ h', INV h' → GT p l e room_1 s m args below meth c D cA A ad (ce + 1) (sl + 6) Qe 7 1337 (lvL i) [] h') : GT p l e room_1 s m args below meth c D cA A ad ce sl Qe 7 1026 (lvL i) [] h := by
  obtain ⟨v0, P0, Q0, c1, c2, c3⟩ := (o_off i0 ((xs (i + 1))) ((xs (i + 2))))
  refine g_aload_1 (M := mL_law) Y.1 dL_law_1026 ?_
  refine l_arg Y 1 dL_law_1027 dL_law_1028 dL_law_1030 (by decide) dL_law_1031 dL_law_1032 hi (by decide) ?_
  refine l_arg Y 2 dL_law_1033 dL_law_1034 dL_law_1036 (by decide) dL_law_1037 dL_law_1038 hi (by decide) ?_
  refine g_callV (M := mL_law) Y.1 (M' := mX7_off) (as := [.int (xs (i + 1)), .int (xs (i + 2))]) (st := []) dL_law_1039 ml_L_146 mo_X7_off rfl c1 ⟨Nat.le_of_ble_eq_true rfl, Nat.le_of_ble_eq_true rfl⟩ hce rfl rfl rfl (fun v h1 q => ?_)
  obtain ⟨⟨rfl, p1⟩, ty⟩ := q
  obtain ⟨x0, hx0⟩ := ty.2 rfl
  cases hx0
  refine g_aload_2 (M := mL_law) Y.1 dL_law_1042 ?_
  refine l_arg Y 1 dL_law_1043 dL_law_1044 dL_law_1046 (by decide) dL_law_1047 dL_law_1048 hi (by decide) ?_
  refine l_arg Y 2 dL_law_1049 dL_law_1050 dL_law_1052 (by decide) dL_law_1053 dL_law_1054 hi (by decide) ?_
  refine g_callV (M := mL_law) Y.1 (M' := mX8_off) (as := [.int (xs (i + 1)), .int (xs (i + 2))]) (st := [.long x0]) dL_law_1055 ml_L_149 mo_X8_off rfl (c2 h1 p1) ⟨Nat.le_of_ble_eq_true rfl, Nat.le_of_ble_eq_true rfl⟩ hce rfl rfl rfl (fun v h2 q => ?_)
  obtain ⟨⟨rfl, p2⟩, -⟩ := q
  refine g_lcmp (M := mL_law) Y.1 dL_law_1058 ?_
  refine g_if_eq (M := mL_law) Y.1 1337 dL_law_1059 (by decide) (fun _ => ?_) (fun q => absurd (cmp_rf x0) q)
  exact g_widen (M := mL_law) (Nat.le_add_right _ _) (Nat.le_add_right _ _) (K h2 (c3 h1 h2 p1 p2))
theorem lc_leak (Y : LC p l s m args meth c D cA tys A ad L xs) (hi : i + 6 ≤ L) (hce : ce ≤ room_1.cells ∧ sl ≤ room_1.slots) (i0 : INV h) (K : ∀ h', INV h' → GT p l e room_1 s m args below meth c D cA A ad (ce + 1) (sl + 6) Qe 7 1337 (lvL i) [] h') : GT p l e room_1 s m args below meth c D cA A ad ce sl Qe 7 1064 (lvL i) [] h := by
  obtain ⟨v0, P0, Q0, c1, c2, c3⟩ := (o_leak i0 ((xs (i + 1))))
  refine g_aload_1 (M := mL_law) Y.1 dL_law_1064 ?_
  refine l_arg Y 1 dL_law_1065 dL_law_1066 dL_law_1068 (by decide) dL_law_1069 dL_law_1070 hi (by decide) ?_
  refine g_callV (M := mL_law) Y.1 (M' := mX7_leak) (as := [.int (xs (i + 1))]) (st := []) dL_law_1071 ml_L_150 mo_X7_leak rfl c1 ⟨Nat.le_of_ble_eq_true rfl, Nat.le_of_ble_eq_true rfl⟩ hce rfl rfl rfl (fun v h1 q => ?_)
  obtain ⟨⟨rfl, p1⟩, ty⟩ := q
  obtain ⟨x0, hx0⟩ := ty.2 rfl
  cases hx0
  refine g_aload_2 (M := mL_law) Y.1 dL_law_1074 ?_
  refine l_arg Y 1 dL_law_1075 dL_law_1076 dL_law_1078 (by decide) dL_law_1079 dL_law_1080 hi (by decide) ?_
  refine g_callV (M := mL_law) Y.1 (M' := mX8_leak) (as := [.int (xs (i + 1))]) (st := [.long x0]) dL_law_1081 ml_L_153 mo_X8_leak rfl (c2 h1 p1) ⟨Nat.le_of_ble_eq_true rfl, Nat.le_of_ble_eq_true rfl⟩ hce rfl rfl rfl (fun v h2 q => ?_)
  obtain ⟨⟨rfl, p2⟩, -⟩ := q
  refine g_lcmp (M := mL_law) Y.1 dL_law_1084 ?_
  refine g_if_eq (M := mL_law) Y.1 1337 dL_law_1085 (by decide) (fun _ => ?_) (fun q => absurd (cmp_rf x0) q)
  exact g_widen (M := mL_law) (Nat.le_add_right _ _) (Nat.le_add_right _ _) (K h2 (c3 h1 h2 p1 p2))
theorem lc_valve (Y : LC p l s m args meth c D cA tys A ad L xs) (hi : i + 6 ≤ L) (hce : ce ≤ room_1.cells ∧ sl ≤ room_1.slots) (i0 : INV h) (K : ∀ h', INV h' → GT p l e room_1 s m args below meth c D cA A ad (ce + 1) (sl + 6) Qe 7 1337 (lvL i) [] h') : GT p l e room_1 s m args below meth c D cA A ad ce sl Qe 7 1090 (lvL i) [] h := by
  by_cases hz : xs (i + 2) = 0
  · obtain ⟨v0, P0, Q0, c1, c2, c3⟩ := (o_valve i0 ((xs (i + 1))) 0)
    refine g_aload_1 (M := mL_law) Y.1 dL_law_1090 ?_
    refine l_arg Y 1 dL_law_1091 dL_law_1092 dL_law_1094 (by decide) dL_law_1095 dL_law_1096 hi (by decide) ?_
    refine l_arg Y 2 dL_law_1097 dL_law_1098 dL_law_1100 (by decide) dL_law_1101 dL_law_1102 hi (by decide) ?_
    refine g_if_eq (M := mL_law) Y.1 1110 dL_law_1103 (by decide) (fun _ => ?_) (fun q => absurd hz q)
    refine g_iconst (M := mL_law) Y.1 (v := 0) dL_law_1110 (by decide) ?_
    refine g_callV (M := mL_law) Y.1 (M' := mX7_valve) (as := [.int (xs (i + 1)), .int 0]) (st := []) dL_law_1111 ml_L_154 mo_X7_valve rfl c1 ⟨Nat.le_of_ble_eq_true rfl, Nat.le_of_ble_eq_true rfl⟩ hce rfl rfl rfl (fun v h1 q => ?_)
    obtain ⟨⟨rfl, p1⟩, ty⟩ := q
    obtain ⟨x0, hx0⟩ := ty.1 rfl
    cases hx0
    refine g_aload_2 (M := mL_law) Y.1 dL_law_1114 ?_
    refine l_arg Y 1 dL_law_1115 dL_law_1116 dL_law_1118 (by decide) dL_law_1119 dL_law_1120 hi (by decide) ?_
    refine l_arg Y 2 dL_law_1121 dL_law_1122 dL_law_1124 (by decide) dL_law_1125 dL_law_1126 hi (by decide) ?_
    refine g_if_eq (M := mL_law) Y.1 1134 dL_law_1127 (by decide) (fun _ => ?_) (fun q => absurd hz q)
    refine g_iconst (M := mL_law) Y.1 (v := 0) dL_law_1134 (by decide) ?_
    refine g_callV (M := mL_law) Y.1 (M' := mX8_valve) (as := [.int (xs (i + 1)), .int 0]) (st := [.int x0]) dL_law_1135 ml_L_158 mo_X8_valve rfl (c2 h1 p1) ⟨Nat.le_of_ble_eq_true rfl, Nat.le_of_ble_eq_true rfl⟩ hce rfl rfl rfl (fun v h2 q => ?_)
    obtain ⟨⟨rfl, p2⟩, -⟩ := q
    refine g_icmp_eq (M := mL_law) Y.1 1337 dL_law_1138 (by decide) (fun _ => ?_) (fun q => absurd rfl q)
    exact g_widen (M := mL_law) (Nat.le_add_right _ _) (Nat.le_add_right _ _) (K h2 (c3 h1 h2 p1 p2))
  · obtain ⟨v0, P0, Q0, c1, c2, c3⟩ := (o_valve i0 ((xs (i + 1))) 1)
    refine g_aload_1 (M := mL_law) Y.1 dL_law_1090 ?_
    refine l_arg Y 1 dL_law_1091 dL_law_1092 dL_law_1094 (by decide) dL_law_1095 dL_law_1096 hi (by decide) ?_
    refine l_arg Y 2 dL_law_1097 dL_law_1098 dL_law_1100 (by decide) dL_law_1101 dL_law_1102 hi (by decide) ?_
    refine g_if_eq (M := mL_law) Y.1 1110 dL_law_1103 (by decide) (fun q => absurd q hz) (fun _ => ?_)
    refine g_iconst (M := mL_law) Y.1 (v := 1) dL_law_1106 (by decide) ?_
    refine g_goto (M := mL_law) Y.1 1111 dL_law_1107 (by decide) ?_
    refine g_callV (M := mL_law) Y.1 (M' := mX7_valve) (as := [.int (xs (i + 1)), .int 1]) (st := []) dL_law_1111 ml_L_154 mo_X7_valve rfl c1 ⟨Nat.le_of_ble_eq_true rfl, Nat.le_of_ble_eq_true rfl⟩ hce rfl rfl rfl (fun v h1 q => ?_)
    obtain ⟨⟨rfl, p1⟩, ty⟩ := q
    obtain ⟨x0, hx0⟩ := ty.1 rfl
    cases hx0
    refine g_aload_2 (M := mL_law) Y.1 dL_law_1114 ?_
    refine l_arg Y 1 dL_law_1115 dL_law_1116 dL_law_1118 (by decide) dL_law_1119 dL_law_1120 hi (by decide) ?_
    refine l_arg Y 2 dL_law_1121 dL_law_1122 dL_law_1124 (by decide) dL_law_1125 dL_law_1126 hi (by decide) ?_
    refine g_if_eq (M := mL_law) Y.1 1134 dL_law_1127 (by decide) (fun q => absurd q hz) (fun _ => ?_)
    refine g_iconst (M := mL_law) Y.1 (v := 1) dL_law_1130 (by decide) ?_
    refine g_goto (M := mL_law) Y.1 1135 dL_law_1131 (by decide) ?_
    refine g_callV (M := mL_law) Y.1 (M' := mX8_valve) (as := [.int (xs (i + 1)), .int 1]) (st := [.int x0]) dL_law_1135 ml_L_158 mo_X8_valve rfl (c2 h1 p1) ⟨Nat.le_of_ble_eq_true rfl, Nat.le_of_ble_eq_true rfl⟩ hce rfl rfl rfl (fun v h2 q => ?_)
    obtain ⟨⟨rfl, p2⟩, -⟩ := q
    refine g_icmp_eq (M := mL_law) Y.1 1337 dL_law_1138 (by decide) (fun _ => ?_) (fun q => absurd rfl q)
    exact g_widen (M := mL_law) (Nat.le_add_right _ _) (Nat.le_add_right _ _) (K h2 (c3 h1 h2 p1 p2))
theorem lc_draw (Y : LC p l s m args meth c D cA tys A ad L xs) (hi : i + 6 ≤ L) (hce : ce ≤ room_1.cells ∧ sl ≤ room_1.slots) (i0 : INV h) (K : ∀ h', INV h' → GT p l e room_1 s m args below meth c D cA A ad (ce + 1) (sl + 6) Qe 7 1337 (lvL i) [] h') : GT p l e room_1 s m args below meth c D cA A ad ce sl Qe 7 1143 (lvL i) [] h := by
  obtain ⟨v0, P0, Q0, c1, c2, c3⟩ := (o_draw i0 ((xs (i + 1))) ((xs (i + 2))))
  refine g_aload_1 (M := mL_law) Y.1 dL_law_1143 ?_
  refine l_arg Y 1 dL_law_1144 dL_law_1145 dL_law_1147 (by decide) dL_law_1148 dL_law_1149 hi (by decide) ?_
  refine l_arg Y 2 dL_law_1150 dL_law_1151 dL_law_1153 (by decide) dL_law_1154 dL_law_1155 hi (by decide) ?_
  refine g_callV (M := mL_law) Y.1 (M' := mX7_draw) (as := [.int (xs (i + 1)), .int (xs (i + 2))]) (st := []) dL_law_1156 ml_L_159 mo_X7_draw rfl c1 ⟨Nat.le_of_ble_eq_true rfl, Nat.le_of_ble_eq_true rfl⟩ hce rfl rfl rfl (fun v h1 q => ?_)
  obtain ⟨⟨rfl, p1⟩, ty⟩ := q
  obtain ⟨x0, hx0⟩ := ty.1 rfl
  cases hx0
  refine g_aload_2 (M := mL_law) Y.1 dL_law_1159 ?_
  refine l_arg Y 1 dL_law_1160 dL_law_1161 dL_law_1163 (by decide) dL_law_1164 dL_law_1165 hi (by decide) ?_
  refine l_arg Y 2 dL_law_1166 dL_law_1167 dL_law_1169 (by decide) dL_law_1170 dL_law_1171 hi (by decide) ?_
  refine g_callV (M := mL_law) Y.1 (M' := mX8_draw) (as := [.int (xs (i + 1)), .int (xs (i + 2))]) (st := [.int x0]) dL_law_1172 ml_L_162 mo_X8_draw rfl (c2 h1 p1) ⟨Nat.le_of_ble_eq_true rfl, Nat.le_of_ble_eq_true rfl⟩ hce rfl rfl rfl (fun v h2 q => ?_)
  obtain ⟨⟨rfl, p2⟩, -⟩ := q
  refine g_icmp_eq (M := mL_law) Y.1 1337 dL_law_1175 (by decide) (fun _ => ?_) (fun q => absurd rfl q)
  exact g_widen (M := mL_law) (Nat.le_add_right _ _) (Nat.le_add_right _ _) (K h2 (c3 h1 h2 p1 p2))
theorem lc_well (Y : LC p l s m args meth c D cA tys A ad L xs) (hi : i + 6 ≤ L) (hce : ce ≤ room_1.cells ∧ sl ≤ room_1.slots) (i0 : INV h) (K : ∀ h', INV h' → GT p l e room_1 s m args below meth c D cA A ad (ce + 1) (sl + 6) Qe 7 1337 (lvL i) [] h') : GT p l e room_1 s m args below meth c D cA A ad ce sl Qe 7 1180 (lvL i) [] h := by
  obtain ⟨v0, P0, Q0, c1, c2, c3⟩ := (o_well i0 ((xs (i + 1))))
  refine g_aload_1 (M := mL_law) Y.1 dL_law_1180 ?_
  refine l_arg Y 1 dL_law_1181 dL_law_1182 dL_law_1184 (by decide) dL_law_1185 dL_law_1186 hi (by decide) ?_
  refine g_callV (M := mL_law) Y.1 (M' := mX7_well) (as := [.int (xs (i + 1))]) (st := []) dL_law_1187 ml_L_163 mo_X7_well rfl c1 ⟨Nat.le_of_ble_eq_true rfl, Nat.le_of_ble_eq_true rfl⟩ hce rfl rfl rfl (fun v h1 q => ?_)
  obtain ⟨⟨rfl, p1⟩, ty⟩ := q
  obtain ⟨x0, hx0⟩ := ty.1 rfl
  cases hx0
  refine g_aload_2 (M := mL_law) Y.1 dL_law_1190 ?_
  refine l_arg Y 1 dL_law_1191 dL_law_1192 dL_law_1194 (by decide) dL_law_1195 dL_law_1196 hi (by decide) ?_
  refine g_callV (M := mL_law) Y.1 (M' := mX8_well) (as := [.int (xs (i + 1))]) (st := [.int x0]) dL_law_1197 ml_L_166 mo_X8_well rfl (c2 h1 p1) ⟨Nat.le_of_ble_eq_true rfl, Nat.le_of_ble_eq_true rfl⟩ hce rfl rfl rfl (fun v h2 q => ?_)
  obtain ⟨⟨rfl, p2⟩, -⟩ := q
  refine g_icmp_eq (M := mL_law) Y.1 1337 dL_law_1200 (by decide) (fun _ => ?_) (fun q => absurd rfl q)
  exact g_widen (M := mL_law) (Nat.le_add_right _ _) (Nat.le_add_right _ _) (K h2 (c3 h1 h2 p1 p2))
theorem lc_resist (Y : LC p l s m args meth c D cA tys A ad L xs) (hi : i + 6 ≤ L) (hce : ce ≤ room_1.cells ∧ sl ≤ room_1.slots) (i0 : INV h) (K : ∀ h', INV h' → GT p l e room_1 s m args below meth c D cA A ad (ce + 1) (sl + 6) Qe 7 1337 (lvL i) [] h') : GT p l e room_1 s m args below meth c D cA A ad ce sl Qe 7 1205 (lvL i) [] h := by
  obtain ⟨v0, P0, Q0, c1, c2, c3⟩ := (o_resist i0 ((xs (i + 1))) ((xs (i + 2))))
  refine g_aload_1 (M := mL_law) Y.1 dL_law_1205 ?_
  refine l_arg Y 1 dL_law_1206 dL_law_1207 dL_law_1209 (by decide) dL_law_1210 dL_law_1211 hi (by decide) ?_
  refine l_arg Y 2 dL_law_1212 dL_law_1213 dL_law_1215 (by decide) dL_law_1216 dL_law_1217 hi (by decide) ?_
  refine g_callV (M := mL_law) Y.1 (M' := mX7_resist) (as := [.int (xs (i + 1)), .int (xs (i + 2))]) (st := []) dL_law_1218 ml_L_167 mo_X7_resist rfl c1 ⟨Nat.le_of_ble_eq_true rfl, Nat.le_of_ble_eq_true rfl⟩ hce rfl rfl rfl (fun v h1 q => ?_)
  obtain ⟨⟨rfl, p1⟩, ty⟩ := q
  obtain ⟨x0, hx0⟩ := ty.1 rfl
  cases hx0
  refine g_aload_2 (M := mL_law) Y.1 dL_law_1221 ?_
  refine l_arg Y 1 dL_law_1222 dL_law_1223 dL_law_1225 (by decide) dL_law_1226 dL_law_1227 hi (by decide) ?_
  refine l_arg Y 2 dL_law_1228 dL_law_1229 dL_law_1231 (by decide) dL_law_1232 dL_law_1233 hi (by decide) ?_
  refine g_callV (M := mL_law) Y.1 (M' := mX8_resist) (as := [.int (xs (i + 1)), .int (xs (i + 2))]) (st := [.int x0]) dL_law_1234 ml_L_170 mo_X8_resist rfl (c2 h1 p1) ⟨Nat.le_of_ble_eq_true rfl, Nat.le_of_ble_eq_true rfl⟩ hce rfl rfl rfl (fun v h2 q => ?_)
  obtain ⟨⟨rfl, p2⟩, -⟩ := q
  refine g_icmp_eq (M := mL_law) Y.1 1337 dL_law_1237 (by decide) (fun _ => ?_) (fun q => absurd rfl q)
  exact g_widen (M := mL_law) (Nat.le_add_right _ _) (Nat.le_add_right _ _) (K h2 (c3 h1 h2 p1 p2))
theorem lc_undo (Y : LC p l s m args meth c D cA tys A ad L xs) (hi : i + 6 ≤ L) (hce : ce ≤ room_1.cells ∧ sl ≤ room_1.slots) (i0 : INV h) (K : ∀ h', INV h' → GT p l e room_1 s m args below meth c D cA A ad (ce + 1) (sl + 6) Qe 7 1337 (lvL i) [] h') : GT p l e room_1 s m args below meth c D cA A ad ce sl Qe 7 1242 (lvL i) [] h := by
  obtain ⟨v0, P0, Q0, c1, c2, c3⟩ := (o_undo i0 )
  refine g_aload_1 (M := mL_law) Y.1 dL_law_1242 ?_
  refine g_callV (M := mL_law) Y.1 (M' := mX7_undo) (as := []) (st := []) dL_law_1243 ml_L_171 mo_X7_undo rfl c1 ⟨Nat.le_of_ble_eq_true rfl, Nat.le_of_ble_eq_true rfl⟩ hce rfl rfl rfl (fun v h1 q => ?_)
  obtain ⟨⟨rfl, p1⟩, ty⟩ := q
  obtain ⟨x0, hx0⟩ := ty.1 rfl
  cases hx0
  refine g_aload_2 (M := mL_law) Y.1 dL_law_1246 ?_
  refine g_callV (M := mL_law) Y.1 (M' := mX8_undo) (as := []) (st := [.int x0]) dL_law_1247 ml_L_174 mo_X8_undo rfl (c2 h1 p1) ⟨Nat.le_of_ble_eq_true rfl, Nat.le_of_ble_eq_true rfl⟩ hce rfl rfl rfl (fun v h2 q => ?_)
  obtain ⟨⟨rfl, p2⟩, -⟩ := q
  refine g_icmp_eq (M := mL_law) Y.1 1337 dL_law_1250 (by decide) (fun _ => ?_) (fun q => absurd rfl q)
  exact g_widen (M := mL_law) (Nat.le_add_right _ _) (Nat.le_add_right _ _) (K h2 (c3 h1 h2 p1 p2))
theorem lc_size (Y : LC p l s m args meth c D cA tys A ad L xs) (hi : i + 6 ≤ L) (hce : ce ≤ room_1.cells ∧ sl ≤ room_1.slots) (i0 : INV h) (K : ∀ h', INV h' → GT p l e room_1 s m args below meth c D cA A ad (ce + 1) (sl + 6) Qe 7 1337 (lvL i) [] h') : GT p l e room_1 s m args below meth c D cA A ad ce sl Qe 7 1311 (lvL i) [] h := by
  obtain ⟨v0, P0, Q0, c1, c2, c3⟩ := (Quiet.to2 i0 (o_size i0 ))
  refine g_aload_1 (M := mL_law) Y.1 dL_law_1311 ?_
  refine g_callV (M := mL_law) Y.1 (M' := mX7_size) (as := []) (st := []) dL_law_1312 ml_L_184 mo_X7_size rfl c1 ⟨Nat.le_of_ble_eq_true rfl, Nat.le_of_ble_eq_true rfl⟩ hce rfl rfl rfl (fun v h1 q => ?_)
  obtain ⟨⟨rfl, p1⟩, ty⟩ := q
  obtain ⟨x0, hx0⟩ := ty.1 rfl
  cases hx0
  refine g_aload_2 (M := mL_law) Y.1 dL_law_1315 ?_
  refine g_callV (M := mL_law) Y.1 (M' := mX8_size) (as := []) (st := [.int x0]) dL_law_1316 ml_L_187 mo_X8_size rfl (c2 h1 p1) ⟨Nat.le_of_ble_eq_true rfl, Nat.le_of_ble_eq_true rfl⟩ hce rfl rfl rfl (fun v h2 q => ?_)
  obtain ⟨⟨rfl, p2⟩, -⟩ := q
  refine g_icmp_eq (M := mL_law) Y.1 1337 dL_law_1319 (by decide) (fun _ => ?_) (fun q => absurd rfl q)
  exact g_widen (M := mL_law) (Nat.le_add_right _ _) (Nat.le_add_right _ _) (K h2 (c3 h1 h2 p1 p2))
theorem lc_trouble (Y : LC p l s m args meth c D cA tys A ad L xs) (hi : i + 6 ≤ L) (hce : ce ≤ room_1.cells ∧ sl ≤ room_1.slots) (i0 : INV h) (K : ∀ h', INV h' → GT p l e room_1 s m args below meth c D cA A ad (ce + 1) (sl + 6) Qe 7 1337 (lvL i) [] h') : GT p l e room_1 s m args below meth c D cA A ad ce sl Qe 7 1324 (lvL i) [] h := by
  obtain ⟨v0, P0, Q0, c1, c2, c3⟩ := (Quiet.to2 i0 (o_trouble i0 ))
  refine g_aload_1 (M := mL_law) Y.1 dL_law_1324 ?_
  refine g_callV (M := mL_law) Y.1 (M' := mX7_trouble) (as := []) (st := []) dL_law_1325 ml_L_188 mo_X7_trouble rfl c1 ⟨Nat.le_of_ble_eq_true rfl, Nat.le_of_ble_eq_true rfl⟩ hce rfl rfl rfl (fun v h1 q => ?_)
  obtain ⟨⟨rfl, p1⟩, ty⟩ := q
  obtain ⟨x0, hx0⟩ := ty.1 rfl
  cases hx0
  refine g_aload_2 (M := mL_law) Y.1 dL_law_1328 ?_
  refine g_callV (M := mL_law) Y.1 (M' := mX8_trouble) (as := []) (st := [.int x0]) dL_law_1329 ml_L_191 mo_X8_trouble rfl (c2 h1 p1) ⟨Nat.le_of_ble_eq_true rfl, Nat.le_of_ble_eq_true rfl⟩ hce rfl rfl rfl (fun v h2 q => ?_)
  obtain ⟨⟨rfl, p2⟩, -⟩ := q
  refine g_icmp_eq (M := mL_law) Y.1 1337 dL_law_1332 (by decide) (fun _ => ?_) (fun q => absurd rfl q)
  exact g_widen (M := mL_law) (Nat.le_add_right _ _) (Nat.le_add_right _ _) (K h2 (c3 h1 h2 p1 p2))
end LAW
