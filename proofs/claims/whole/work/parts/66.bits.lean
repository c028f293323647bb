/-! ===== both: how many bits; about, edge, joint ===== -/
def us (x n : Int32) : Int32 := (x.toUInt32 >>> (n.toUInt32 &&& Int32.toUInt32 31)).toInt32
def bcA (i : Int32) : Int32 := i - (us i 1 &&& 1431655765)
def bcB (a : Int32) : Int32 := (a &&& 858993459) + (us a 2 &&& 858993459)
def bcC (b : Int32) : Int32 := (b + us b 4) &&& 252645135
def bcF (i : Int32) : Int32 := (bcC (bcB (bcA i)) + us (bcC (bcB (bcA i))) 8 + us (bcC (bcB (bcA i)) + us (bcC (bcB (bcA i))) 8) 16) &&& 63
theorem bc_on : ∀ n : Nat, n < 512 → bcF (nI n) = onS (nI n) 16 0 0 := by decide +kernel
theorem low9 {x : Int32} (h : ∀ i, 9 ≤ i → i < 32 → bt x i = false) : ∃ n, n < 512 ∧ x = nI n := by
  refine ⟨x.toBitVec.toNat % 512, Nat.mod_lt _ (by decide), b_ext (fun i hi => ?_)⟩
  have e : bt (nI (x.toBitVec.toNat % 512)) i = (decide (i < 9) && bt x i) := by
    show (BitVec.ofNat 32 (x.toBitVec.toNat % 512)).getLsbD i = _
    rw [BitVec.getLsbD_ofNat, show 512 = 2 ^ 9 from rfl, Nat.testBit_mod_two_pow]
    simp [hi]; rfl
  rw [e]
  by_cases q : i < 9
  · simp [q]
  · simp [q, h i (by omega) hi]
theorem bc_eq {x : Int32} (h : ∀ i, 9 ≤ i → i < 32 → bt x i = false) : bcF x = onS x 16 0 0 := by
  obtain ⟨n, hn, rfl⟩ := low9 h
  exact bc_on n hn
def cnM (ms : MES) : Int32 := accI (fun j => bI (ms j).isSome) 9 0 0
theorem cn_eq {x : Int32} {ms : MES} (h : ∀ i, i < 32 → bt x i = (ms i).isSome) (h9 : ∀ i, 9 ≤ i → ms i = none) : bcF x = cnM ms := by
  rw [bc_eq (fun i h1 h2 => by rw [h i h2, h9 i h1]; rfl)]
  unfold onS cnM
  have e : ∀ i, i < 16 → b2i (bt x i = true) = bI (ms i).isSome := fun i hi => by rw [h i (by omega)]; unfold b2i bI; rfl
  rw [accI_cong 16 0 0 (fun i _ hi => e i (by omega)), accI_sm, accI_sm]
  exact sm_ext 16 (by decide) (fun i hi => by rw [h9 i hi]; rfl)
set_option maxRecDepth 100000 in
set_option maxHeartbeats 4000000 in
theorem k_bitCount (h : PH) (x : Int32) : ConF mJ6_bitCount_0f7a4 1 [.int x] h (some (.int (bcF x))) h := by
  refine Con.mk (by decide) ?_
  show RT _ _ 0 [some (.int x)] [] _ _
  refine r_iload_0 dJ6_bitCount_0f7a4_0 ?_
  refine r_iload_0 dJ6_bitCount_0f7a4_1 ?_
  refine r_iconst (v := 1) dJ6_bitCount_0f7a4_2 (by decide) ?_
  refine r_iushr dJ6_bitCount_0f7a4_3 ?_
  refine r_ldcw dJ6_bitCount_0f7a4_4 ks_J6_265 ?_
  refine r_iand dJ6_bitCount_0f7a4_7 ?_
  refine r_isub dJ6_bitCount_0f7a4_8 ?_
  refine r_istore_0 dJ6_bitCount_0f7a4_9 ?_
  refine r_iload_0 dJ6_bitCount_0f7a4_10 ?_
  refine r_ldcw dJ6_bitCount_0f7a4_11 ks_J6_266 ?_
  refine r_iand dJ6_bitCount_0f7a4_14 ?_
  refine r_iload_0 dJ6_bitCount_0f7a4_15 ?_
  refine r_iconst (v := 2) dJ6_bitCount_0f7a4_16 (by decide) ?_
  refine r_iushr dJ6_bitCount_0f7a4_17 ?_
  refine r_ldcw dJ6_bitCount_0f7a4_18 ks_J6_266 ?_
  refine r_iand dJ6_bitCount_0f7a4_21 ?_
  refine r_iadd dJ6_bitCount_0f7a4_22 ?_
  refine r_istore_0 dJ6_bitCount_0f7a4_23 ?_
  refine r_iload_0 dJ6_bitCount_0f7a4_24 ?_
  refine r_iload_0 dJ6_bitCount_0f7a4_25 ?_
  refine r_iconst (v := 4) dJ6_bitCount_0f7a4_26 (by decide) ?_
  refine r_iushr dJ6_bitCount_0f7a4_27 ?_
  refine r_iadd dJ6_bitCount_0f7a4_28 ?_
  refine r_ldcw dJ6_bitCount_0f7a4_29 ks_J6_267 ?_
  refine r_iand dJ6_bitCount_0f7a4_32 ?_
  refine r_istore_0 dJ6_bitCount_0f7a4_33 ?_
  refine r_iload_0 dJ6_bitCount_0f7a4_34 ?_
  refine r_iload_0 dJ6_bitCount_0f7a4_35 ?_
  refine r_bipush (v := 8) dJ6_bitCount_0f7a4_36 (by decide) ?_
  refine r_iushr dJ6_bitCount_0f7a4_38 ?_
  refine r_iadd dJ6_bitCount_0f7a4_39 ?_
  refine r_istore_0 dJ6_bitCount_0f7a4_40 ?_
  refine r_iload_0 dJ6_bitCount_0f7a4_41 ?_
  refine r_iload_0 dJ6_bitCount_0f7a4_42 ?_
  refine r_bipush (v := 16) dJ6_bitCount_0f7a4_43 (by decide) ?_
  refine r_iushr dJ6_bitCount_0f7a4_45 ?_
  refine r_iadd dJ6_bitCount_0f7a4_46 ?_
  refine r_istore_0 dJ6_bitCount_0f7a4_47 ?_
  refine r_iload_0 dJ6_bitCount_0f7a4_48 ?_
  refine r_bipush (v := 63) dJ6_bitCount_0f7a4_49 (by decide) ?_
  refine r_iand dJ6_bitCount_0f7a4_51 ?_
  refine r_iret dJ6_bitCount_0f7a4_52 rfl ?_
  exact ⟨rfl, rfl⟩

set_option maxRecDepth 100000 in
set_option maxHeartbeats 4000000 in
theorem k_count {h : PH} {ms : MES} (hb : ∀ i, i < 32 → bt (h.1 72 0) i = (ms i).isSome) (h9 : ∀ i, 9 ≤ i → ms i = none) : ConF mX1_count 2 [.ref 72] h (some (.int (cnM ms))) h := by
  refine Con.mk (by decide) ?_
  show RT _ _ 0 [some (.ref 72)] [] _ _
  refine r_aload_0 dX1_count_0 ?_
  refine r_getI dX1_count_1 fl_X1_15 rfl ?_
  refine r_cS1 mJ6_bitCount_0f7a4 dX1_count_4 ml_X1_23 mo_J6_bitCount_0f7a4 (k_bitCount h _) (by decide) ?_
  rw [cn_eq hb h9]
  refine r_iret dX1_count_7 rfl ?_
  exact ⟨rfl, rfl⟩

set_option maxRecDepth 100000 in
set_option maxHeartbeats 4000000 in
theorem many_loop {h : PH} {ms : MES} (hm : MeaM h ms) : ∀ (m j : Nat) (acc : Int32), j + m = 9 → RT mX8_measuredMany 1 4 [some (.ref 74), some (.int acc), some (.int (nI j))] [] h (fun a b => a = some (.int (accI (fun j => bI (ms j).isSome) m j acc)) ∧ b = h) := by
  intro m
  induction m with
  | zero =>
    intro j acc hj
    refine r_iload_2 dX8_measuredMany_4 ?_
    refine r_bipush (v := nI 9) dX8_measuredMany_5 (by decide) ?_
    refine r_icmpN_ge 33 dX8_measuredMany_7 (by decide) (by omega) (by omega) (fun c_7 => ?_) (fun c_7 => by omega)
    refine r_iload_1 dX8_measuredMany_33 ?_
    refine r_iret dX8_measuredMany_34 rfl ?_
    exact ⟨rfl, rfl⟩
  | succ m ih =>
    intro j acc hj
    have ih' := ih (j + 1) (acc + bI (ms j).isSome) (by omega)
    show RT _ _ _ _ _ _ (fun a b => a = some (.int (accI (fun j => bI (ms j).isSome) m (j + 1) (acc + bI (ms j).isSome))) ∧ b = h)
    have e := (hm j (by omega)).1
    cases q : (ms j).isSome
    · rw [q] at e ih'
      refine r_iload_2 dX8_measuredMany_4 ?_
      refine r_bipush (v := nI 9) dX8_measuredMany_5 (by decide) ?_
      refine r_icmpN_ge 33 dX8_measuredMany_7 (by decide) (by omega) (by omega) (fun c_7 => by omega) (fun c_7 => ?_)
      refine r_iload_1 dX8_measuredMany_10 ?_
      refine r_aload_0 dX8_measuredMany_11 ?_
      refine r_getR (a := 94) dX8_measuredMany_12 fl_X8_80 rfl rfl ?_
      refine r_iload_2 dX8_measuredMany_15 ?_
      refine r_zaldN dX8_measuredMany_16 rfl (by omega) ?_
      rw [e]
      refine r_if_eq 24 dX8_measuredMany_17 (by decide) (fun c_17 => ?_) (fun c_17 => by exact absurd rfl c_17)
      refine r_iconst (v := 0) dX8_measuredMany_24 (by decide) ?_
      refine r_iadd dX8_measuredMany_25 ?_
      refine r_istore_1 dX8_measuredMany_26 ?_
      refine r_iincN_2 dX8_measuredMany_27 ?_
      refine r_goto 4 dX8_measuredMany_30 (by decide) ?_
      exact ih'
    · rw [q] at e ih'
      refine r_iload_2 dX8_measuredMany_4 ?_
      refine r_bipush (v := nI 9) dX8_measuredMany_5 (by decide) ?_
      refine r_icmpN_ge 33 dX8_measuredMany_7 (by decide) (by omega) (by omega) (fun c_7 => by omega) (fun c_7 => ?_)
      refine r_iload_1 dX8_measuredMany_10 ?_
      refine r_aload_0 dX8_measuredMany_11 ?_
      refine r_getR (a := 94) dX8_measuredMany_12 fl_X8_80 rfl rfl ?_
      refine r_iload_2 dX8_measuredMany_15 ?_
      refine r_zaldN dX8_measuredMany_16 rfl (by omega) ?_
      rw [e]
      refine r_if_eq 24 dX8_measuredMany_17 (by decide) (fun c_17 => by exact absurd c_17 (by decide)) (fun c_17 => ?_)
      refine r_iconst (v := 1) dX8_measuredMany_20 (by decide) ?_
      refine r_goto 25 dX8_measuredMany_21 (by decide) ?_
      refine r_iadd dX8_measuredMany_25 ?_
      refine r_istore_1 dX8_measuredMany_26 ?_
      refine r_iincN_2 dX8_measuredMany_27 ?_
      refine r_goto 4 dX8_measuredMany_30 (by decide) ?_
      exact ih'
set_option maxRecDepth 100000 in
set_option maxHeartbeats 4000000 in
theorem q_many {h : PH} {ms : MES} (hm : MeaM h ms) : ConF mX8_measuredMany 1 [.ref 74] h (some (.int (cnM ms))) h := by
  refine Con.mk (by decide) ?_
  show RT _ _ 0 [some (.ref 74), none, none] [] _ _
  refine r_iconst (v := 0) dX8_measuredMany_0 (by decide) ?_
  refine r_istore_1 dX8_measuredMany_1 ?_
  refine r_iconst (v := nI 0) dX8_measuredMany_2 (by decide) ?_
  refine r_istore_2 dX8_measuredMany_3 ?_
  exact many_loop hm 9 0 0 (by omega)

theorem msOK.n9 {t : NT} (ok : okT t) {ms : MES} (h : msOK t ms) : ∀ i, 9 ≤ i → ms i = none := fun i hi => by
  cases q : ms i with
  | none => rfl
  | some v => have := (h i v q).2.1; have := ok.2.1; omega
theorem in_c {v : Int32} {n : Nat} (hn : n < 15) : ((0 : Int64) ≤ v.toInt64 ∧ v.toInt64 ≤ (nI n).toInt64) ↔ (0 ≤ v ∧ v < nI (n + 1)) := by
  have h1 : (nI n).toInt = (n : Int) := (by decide +kernel : ∀ E, E < 16 → (nI E).toInt = (E : Int)) n (by omega)
  have h2 : (nI (n + 1)).toInt = ((n + 1 : Nat) : Int) := (by decide +kernel : ∀ E, E < 16 → (nI E).toInt = (E : Int)) (n + 1) (by omega)
  have h0 : (0 : Int64).toInt = 0 := by decide +kernel
  rw [le64, le64, fa_le, fa_lt, toInt64_toInt, toInt64_toInt, h1, h2, h0, Int32.toInt_zero]
  omega
/-- a tree's edge flows -/
theorem te_live {t : NT} (ok : okT t) (sh : Int32) {e : Nat} (he : e < NT.E t) (h : isTE (NT.fi t) (NT.se t) (trS (snOf t) sh) e = true) : (opS (snOf t) sh e && (trS (snOf t) sh).2.2.2 (NT.fi t e)) = true := by
  have tw := ok.tw sh
  have h2 : ∀ x : Nat, x < 14 → ¬ (nI x = -2) := by decide +kernel
  have hE14 := ok.2.2.1
  have back : ∀ j, (trS (snOf t) sh).2.2.1 j = nI e → opS (snOf t) sh e = true ∧ ((NT.fi t e = j ∧ (trS (snOf t) sh).2.2.2 j = true) ∨ (NT.se t e = j ∧ (trS (snOf t) sh).2.2.2 j = true)) := by
    intro j hj
    have hm : (trS (snOf t) sh).2.2.2 j = true := by
      cases q : (trS (snOf t) sh).2.2.2 j with
      | true => rfl
      | false => exact absurd (hj.symm.trans (tw.2.2.2.2.2.1 j q)) (h2 e (by omega))
    have h0 : j ≠ 0 := fun q => by rw [q] at hj; exact absurd (hj.symm.trans tw.2.2.2.2.2.2) (h2 e (by omega))
    have u := tw.upm ok.ends hE14 hm h0
    have hp : pe (trS (snOf t) sh) j = e := by unfold pe; rw [hj]; exact nI_clamp (by omega)
    rw [hp] at u
    exact ⟨u.2.2.2.2.1, u.2.2.2.2.2.elim (fun z => Or.inl ⟨z.1, hm⟩) (fun z => Or.inr ⟨z.1, hm⟩)⟩
  have key : opS (snOf t) sh e = true ∧ (trS (snOf t) sh).2.2.2 (NT.fi t e) = true := by
    unfold isTE at h
    rw [Bool.or_eq_true, decide_eq_true_eq, decide_eq_true_eq] at h
    rcases h with h | h
    · obtain ⟨a, b⟩ := back _ h
      refine ⟨a, ?_⟩
      rcases b with b | b
      · exact b.2
      · exact b.2
    · obtain ⟨a, b⟩ := back _ h
      refine ⟨a, (ok.both sh he a).mpr ?_⟩
      rcases b with b | b
      · exact b.2
      · exact b.2
  rw [key.1, key.2]; rfl
