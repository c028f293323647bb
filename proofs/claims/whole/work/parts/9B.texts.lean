/-! ===== texts of the reference: String.length, String.charAt ===== -/
def MOS (M : MI) (n : Nat) : Prop := Cond.instanceMethod M.1 ∈ rt_tbl ∧ Cond.selects "java/lang/String" M.1 M.1 ∈ rt_tbl ∧ Cond.initialized "java/lang/String" ∈ rt_tbl ∧ Cond.code M.1 M.2.1 M.2.2.1 M.2.2.2 ∈ rt_tbl ∧ (M.1.cls = "java/lang/String" ∧ M.1.cls ≠ "java/lang/invoke/MethodHandle" ∧ M.1.cls ≠ "java/lang/invoke/VarHandle" ∧ (parseMethodDescriptor M.1.desc).map (fun d => d.parameters.length) = some n) ∧ M.2.2.1 ≤ 15
theorem rt_cwT {s : State} {args : Array Value} {own : String} {idx : Nat} {M : MI} {n d' dp : Nat} (ht : ∀ w ∈ rt_tbl, w.before args s = true) (hM : MOS M n) (hl : Cond.methodLink own idx M.1 ∈ rt_tbl) (hd : d' < dp) : CallW (rtR dp) s args own "java/lang/String" idx M.1 M.2.1 M.2.2.1 M.2.2.2 (rt_ws M) (rtR d') 0 0 n := by
  refine cwV (Ts := rt_tbl) (ws' := rt_tbl) n ht (tbl_in (fun w hw => ?_) (fun _ h => h)) rfl rfl rfl hM.2.2.2.2.1 (rt_room hd hM.2.2.2.2.2)
  rcases List.mem_append.mp hw with h | h
  · simp only [List.mem_cons, List.not_mem_nil, or_false] at h
    rcases h with rfl | rfl | rfl | rfl
    · exact hl
    · exact hM.1
    · exact hM.2.1
    · exact hM.2.2.1
  · exact rt_ws_in hM.2.2.2.1 w h
section RTT
variable {M : MI} {dp pc : Nat} {lv : List (Option Value)} {st : List Value} {h : PH} {Q : Option Value → PH → Prop}
theorem rt_callT {i j n d' : Nat} (hj : j < 6) {M' : MI} {as : List Value} {r : Value} {st0 : List Value} (hd : decode M.2.1 pc = .ok (.invokevirtual i, 3)) (hlk : Cond.methodLink M.1.cls i M'.1 ∈ rt_tbl) (hM : MOS M' n) (hc : ConF M' d' (.ref (2000 + j) :: as) h (some r) h) (hdp : d' < dp) (hn : as.length = n) (hst : st0 = as.reverse ++ .ref (2000 + j) :: st) (hw : (stw st).ble 8 = true) (k : RT M dp (pc + 3) lv (r :: st) h Q) : RT M dp pc lv st0 h Q := by
  subst hst
  intro p l e s m args below meth c D cA tys A ad H locs ls C hP hD hS hl
  refine rt_after (rest := st.map (tr ad)) (va_runV (As := as.map (tr ad)) (rest := st.map (tr ad)) ⟨C.1, C.2.1, C.2.2.1, C.2.2.2.1, C.2.2.2.2.1⟩ (hc l D cA tys A ad C.2.2.2.2.2.2.2.2.1) (rt_cwT C.2.2.2.2.1 hM hlk hdp) ⟨RPc.blind, vk_recv C.2.2.2.2.2.2.2.2.2.1 hj hS, fun U hU hW => rt_pre C hP hD hS hU hW⟩ rfl (by simpa using hn) hl.1.1 (by simp [tr]) (lv_room (Nat.le_trans (stw_le ad st) (Nat.le_of_ble_eq_true hw))) hd ⟨Nat.le_refl _, Nat.le_refl _⟩) hS (fun v h' H1 locs1 hq hP1 hD1 hS1 => ?_)
  obtain ⟨rfl, rfl⟩ := hq
  exact k p l e s m args below meth c D cA tys A ad H1 locs1 ls C hP1 hD1 hS1 hl
theorem r_ldcS {i : Nat} (hi : i < 6) (hcls : M.1.cls = "RingWatersModel") (hd : decode M.2.1 pc = .ok (.ldc (strI.getD i 0), 2)) (k : RT M dp (pc + 2) lv (.ref (2000 + i) :: st) h Q) : RT M dp pc lv st h Q := by
  intro p l e s m args below meth c D cA tys A ad H locs ls C hP hD hS hl
  exact va_ldcS C.1 C.2.1 (by rw [← hcls]; exact C.2.2.2.1) (C.2.2.2.2.2.2.2.2.2.2.1 i hi) hd (k p l e s m args below meth c D cA tys A ad H locs ls C hP hD hS hl)
theorem r_sval {i : Nat} (hi : i < 6) (hcls : M.1.cls = "java/lang/String") (hd : decode M.2.1 pc = .ok (.getfield 9, 3)) (k : RT M dp (pc + 3) lv (.ref (3000 + i) :: st) h Q) : RT M dp pc lv (.ref (2000 + i) :: st) h Q := by
  intro p l e s m args below meth c D cA tys A ad H locs ls C hP hD hS hl
  exact vk_getf C.1 C.2.1 ((C.2.2.2.2.2.2.2.2.2.1.1 i hi).2.2.1) hS (by rw [← hcls]; exact C.2.2.2.1) (C.2.2.2.2.1 (Cond.fieldLink "java/lang/String" 9 "java/lang/String" "value" "[B") (in_rt (List.mem_of_getElem? (i := 1849) (by decide +kernel)) (by decide +kernel))) (fun _ x => x) hd (k p l e s m args below meth c D cA tys A ad H locs ls C hP hD hS hl)
theorem r_scod {i : Nat} (hi : i < 6) (hcls : M.1.cls = "java/lang/String") (hd : decode M.2.1 pc = .ok (.getfield 15, 3)) (k : RT M dp (pc + 3) lv (.int 0 :: st) h Q) : RT M dp pc lv (.ref (2000 + i) :: st) h Q := by
  intro p l e s m args below meth c D cA tys A ad H locs ls C hP hD hS hl
  exact vk_getf C.1 C.2.1 ((C.2.2.2.2.2.2.2.2.2.1.1 i hi).2.1) hS (by rw [← hcls]; exact C.2.2.2.1) (C.2.2.2.2.1 (Cond.fieldLink "java/lang/String" 15 "java/lang/String" "coder" "B") (in_rt (List.mem_of_getElem? (i := 1850) (by decide +kernel)) (by decide +kernel))) (fun _ x => x) hd (k p l e s m args below meth c D cA tys A ad H locs ls C hP hD hS hl)
theorem r_gcomp (hcls : M.1.cls = "java/lang/String") (hd : decode M.2.1 pc = .ok (.getstatic 38, 3)) (k : RT M dp (pc + 3) lv (.int 1 :: st) h Q) : RT M dp pc lv st h Q := by
  intro p l e s m args below meth c D cA tys A ad H locs ls C hP hD hS hl
  exact va_gets C.1 C.2.1 (C.2.2.2.2.2.2.2.2.2.2.2.1.1) hS (by rw [← hcls]; exact C.2.2.2.1) (C.2.2.2.2.1 (Cond.fieldLink "java/lang/String" 38 "java/lang/String" "COMPACT_STRINGS" "Z") (in_rt (List.mem_of_getElem? (i := 1368) (by decide +kernel)) (by decide +kernel))) (fun _ x => x) hd (k p l e s m args below meth c D cA tys A ad H locs ls C hP hD hS hl)
theorem r_gfmt (hcls : M.1.cls = "java/lang/String") (hd : decode M.2.1 pc = .ok (.getstatic 1053, 3)) (k : ∀ v, v = .null ∨ v = .ref 4000 → RT M dp (pc + 3) lv (v :: st) h Q) : RT M dp pc lv st h Q := by
  intro p l e s m args below meth c D cA tys A ad H locs ls C hP hD hS hl
  rcases C.2.2.2.2.2.2.2.2.2.2.2.1.2 with z | z
  · exact va_gets C.1 C.2.1 z hS (by rw [← hcls]; exact C.2.2.2.1) (C.2.2.2.2.1 (Cond.fieldLink "java/lang/String" 1053 "jdk/internal/util/Preconditions" "SIOOBE_FORMATTER" "Ljava/util/function/BiFunction;") (in_rt (List.mem_of_getElem? (i := 1384) (by decide +kernel)) (by decide +kernel))) (fun _ x => x) hd (k .null (Or.inl rfl) p l e s m args below meth c D cA tys A ad H locs ls C hP hD hS hl)
  · exact va_gets C.1 C.2.1 z hS (by rw [← hcls]; exact C.2.2.2.1) (C.2.2.2.2.1 (Cond.fieldLink "java/lang/String" 1053 "jdk/internal/util/Preconditions" "SIOOBE_FORMATTER" "Ljava/util/function/BiFunction;") (in_rt (List.mem_of_getElem? (i := 1384) (by decide +kernel)) (by decide +kernel))) (fun _ x => x) hd (k (.ref 4000) (Or.inr rfl) p l e s m args below meth c D cA tys A ad H locs ls C hP hD hS hl)
theorem r_slen {i : Nat} (hi : i < 6) (hd : decode M.2.1 pc = .ok (.arraylength, 1)) (k : RT M dp (pc + 1) lv (.int (nI (strN.getD i 0)) :: st) h Q) : RT M dp pc lv (.ref (3000 + i) :: st) h Q := by
  intro p l e s m args below meth c D cA tys A ad H locs ls C hP hD hS hl
  exact va_tlen C.1 C.2.1 ((C.2.2.2.2.2.2.2.2.2.1.1 i hi).2.2.2) hS rfl hd (k p l e s m args below meth c D cA tys A ad H locs ls C hP hD hS hl)
theorem strN_le : ∀ i, i < 6 → strN.getD i 0 ≤ 5 := by decide
theorem r_sbald {i j : Nat} (hi : i < 6) (hj : j < strN.getD i 0) (hd : decode M.2.1 pc = .ok (.baload, 1)) (k : RT M dp (pc + 1) lv (.int ((strB.getD i []).getD j 0) :: st) h Q) : RT M dp pc lv (.int (nI j) :: .ref (3000 + i) :: st) h Q := by
  intro p l e s m args below meth c D cA tys A ad H locs ls C hP hD hS hl
  have h5 := strN_le i hi
  exact va_tb C.1 C.2.1 ((C.2.2.2.2.2.2.2.2.2.1.1 i hi).2.2.2) hS (i := nI j) (vp_in_nI hj (by omega)) (by rw [nI_clamp (by omega)]; rfl) hd (k p l e s m args below meth c D cA tys A ad H locs ls C hP hD hS hl)
theorem r_i2c {x : Int32} (hd : decode M.2.1 pc = .ok (.i2c, 1)) (k : RT M dp (pc + 1) lv (.int (x.toUInt32 % 65536).toInt32 :: st) h Q) : RT M dp pc lv (.int x :: st) h Q := by
  intro p l e s m args below meth c D cA tys A ad H locs ls C hP hD hS hl
  exact lv_i2c C.1 C.2.1 hd rfl (k p l e s m args below meth c D cA tys A ad H locs ls C hP hD hS hl)
end RTT
theorem lvN_get (ad : Nat → Nat) (a b : Int32) (n : Nat) : ∀ (j : Nat) (v : Value), (lvE [.int a, .int b, .null] n)[j]? = some (some v) → (j, tr ad v) ∈ lv_args 0 ([.int a, .int b, .null].map (tr ad)) := by
  intro j v hv
  show (j, tr ad v) ∈ [(0, Value.int a), (1, Value.int b), (2, Value.null)]
  match j with
  | 0 => simp [lvE] at hv; subst hv; simp [tr]
  | 1 => simp [lvE] at hv; subst hv; simp [tr]
  | 2 => simp [lvE] at hv; subst hv; simp [tr]
  | j + 3 => simp [lvE, List.getElem?_replicate] at hv
theorem Con.mkN {M : MI} {dp : Nat} {a b : Int32} {h : PH} {Q : Option Value → PH → Prop} (hy : plainName M.1.cls = true) (hL : M.2.2.1 = 3) (k : RT M dp 0 [some (.int a), some (.int b), some .null] [] h Q) : Con M dp [.int a, .int b, .null] h Q := by
  intro l D cA tys A ad hT
  refine Met.ofW (cc := M.2.1) (maxL := M.2.2.1) (ret := M.2.2.2) hy rfl ?_
  intro p e s m args below meth c s₁ B hml hv
  obtain ⟨rfl, hP, hD, hK, hE⟩ := hv
  have hts := atoms_spec (ws := rt_ws M) B.pre
  have hlen2 : (lg_sl ([Value.int a, .int b, .null].map (tr ad))).length ≤ M.2.2.1 := by rw [hL]; exact Nat.le_refl 3
  have hl := lv_entry ([Value.int a, .int b, .null].map (tr ad)) (n := M.2.2.1) hlen2
  rw [lg_entry_eq]
  refine k p l e s m _ below meth c D cA tys A ad s.heap [] _ ⟨B.exec, B.bytes, hml, findClass_of_methodNamed B.named, fun w hw => hts w (List.mem_cons_of_mem _ hw), B.returns, B.notSynchronized, hK, hT, hE⟩ hP hD va_S.rf ⟨⟨hl.1, hl.2.1, fun q hq => ?_⟩, hL.symm⟩
  obtain ⟨i, v⟩ := q
  obtain ⟨u, hu, rfl⟩ := mem_lpairs.mp hq
  exact hl.2.2 _ (lvN_get ad a b 3 i u (by simpa [lvE] using hu))
theorem mo_J0_length_8abf5 : MOS mJ0_length_8abf5 0 := ⟨in_rt (List.mem_of_getElem? (i := 1361) (by decide +kernel)) (by decide +kernel), in_rt (List.mem_of_getElem? (i := 1362) (by decide +kernel)) (by decide +kernel), in_rt (List.mem_of_getElem? (i := 126) (by decide +kernel)) (by decide +kernel), in_rt (List.mem_of_getElem? (i := 1363) (by decide +kernel)) (by decide +kernel), ⟨by decide +kernel, by decide +kernel, by decide +kernel, by decide +kernel⟩, by decide +kernel⟩
theorem mo_J0_coder_7d493 : MOS mJ0_coder_7d493 0 := ⟨in_rt (List.mem_of_getElem? (i := 1365) (by decide +kernel)) (by decide +kernel), in_rt (List.mem_of_getElem? (i := 1366) (by decide +kernel)) (by decide +kernel), in_rt (List.mem_of_getElem? (i := 126) (by decide +kernel)) (by decide +kernel), in_rt (List.mem_of_getElem? (i := 1367) (by decide +kernel)) (by decide +kernel), ⟨by decide +kernel, by decide +kernel, by decide +kernel, by decide +kernel⟩, by decide +kernel⟩
theorem mo_J0_charAt_5068e : MOS mJ0_charAt_5068e 1 := ⟨in_rt (List.mem_of_getElem? (i := 1371) (by decide +kernel)) (by decide +kernel), in_rt (List.mem_of_getElem? (i := 1372) (by decide +kernel)) (by decide +kernel), in_rt (List.mem_of_getElem? (i := 126) (by decide +kernel)) (by decide +kernel), in_rt (List.mem_of_getElem? (i := 1373) (by decide +kernel)) (by decide +kernel), ⟨by decide +kernel, by decide +kernel, by decide +kernel, by decide +kernel⟩, by decide +kernel⟩
theorem mo_J0_isLatin1_aae02 : MOS mJ0_isLatin1_aae02 0 := ⟨in_rt (List.mem_of_getElem? (i := 1375) (by decide +kernel)) (by decide +kernel), in_rt (List.mem_of_getElem? (i := 1376) (by decide +kernel)) (by decide +kernel), in_rt (List.mem_of_getElem? (i := 126) (by decide +kernel)) (by decide +kernel), in_rt (List.mem_of_getElem? (i := 1377) (by decide +kernel)) (by decide +kernel), ⟨by decide +kernel, by decide +kernel, by decide +kernel, by decide +kernel⟩, by decide +kernel⟩
set_option maxRecDepth 100000 in
set_option maxHeartbeats 4000000 in
theorem t_coder (h : PH) {i : Nat} (hi : i < 6) : ConF mJ0_coder_7d493 1 [.ref (2000 + i)] h (some (.int 0)) h := by
  refine Con.mk (by decide) ?_
  show RT _ _ 0 [some (.ref (2000 + i))] [] _ _
  refine r_gcomp rfl dJ0_coder_7d493_0 ?_
  refine r_if_eq 13 dJ0_coder_7d493_3 (by decide) (fun q => absurd q (by decide)) (fun _ => ?_)
  refine r_aload_0 dJ0_coder_7d493_6 ?_
  refine r_scod hi rfl dJ0_coder_7d493_7 ?_
  refine r_goto 14 dJ0_coder_7d493_10 (by decide) ?_
  refine r_zret dJ0_coder_7d493_14 rfl rfl ?_
  exact ⟨rfl, rfl⟩

set_option maxRecDepth 100000 in
set_option maxHeartbeats 4000000 in
theorem t_latin (h : PH) {i : Nat} (hi : i < 6) : ConF mJ0_isLatin1_aae02 1 [.ref (2000 + i)] h (some (.int 1)) h := by
  refine Con.mk (by decide) ?_
  show RT _ _ 0 [some (.ref (2000 + i))] [] _ _
  refine r_gcomp rfl dJ0_isLatin1_aae02_0 ?_
  refine r_if_eq 17 dJ0_isLatin1_aae02_3 (by decide) (fun q => absurd q (by decide)) (fun _ => ?_)
  refine r_aload_0 dJ0_isLatin1_aae02_6 ?_
  refine r_scod hi rfl dJ0_isLatin1_aae02_7 ?_
  refine r_if_ne 17 dJ0_isLatin1_aae02_10 (by decide) (fun q => absurd rfl q) (fun _ => ?_)
  refine r_iconst (v := 1) dJ0_isLatin1_aae02_13 (by decide) ?_
  refine r_goto 18 dJ0_isLatin1_aae02_14 (by decide) ?_
  refine r_zret dJ0_isLatin1_aae02_18 rfl rfl ?_
  exact ⟨rfl, rfl⟩

set_option maxRecDepth 100000 in
set_option maxHeartbeats 4000000 in
theorem t_length (h : PH) {i : Nat} (hi : i < 6) : ConF mJ0_length_8abf5 2 [.ref (2000 + i)] h (some (.int (nI (strN.getD i 0)))) h := by
  refine Con.mk (by decide) ?_
  show RT _ _ 0 [some (.ref (2000 + i))] [] _ _
  refine r_aload_0 dJ0_length_8abf5_0 ?_
  refine r_sval hi rfl dJ0_length_8abf5_1 ?_
  refine r_slen hi dJ0_length_8abf5_4 ?_
  refine r_aload_0 dJ0_length_8abf5_5 ?_
  refine rt_callT hi (M' := mJ0_coder_7d493) (as := []) (d' := 1) dJ0_length_8abf5_6 ml_J0_335 mo_J0_coder_7d493 (t_coder h hi) (by decide) rfl rfl rfl ?_
  refine r_ishr dJ0_length_8abf5_9 ?_
  refine r_iret dJ0_length_8abf5_10 rfl ?_
  exact ⟨congrArg (fun x => some (Value.int x)) ((by decide +kernel : ∀ n, n < 6 → nI n >>> ((0 : Int32) &&& 31) = nI n) _ (Nat.lt_succ_of_le (strN_le i hi))), rfl⟩

set_option maxRecDepth 100000 in
set_option maxHeartbeats 4000000 in
theorem t_check3 (h : PH) {k n : Nat} (hk : k < n) (hn : n < 1000) {v : Value} (hv : v = .null ∨ v = .ref 4000) : ConF mJ3_checkIndex_8e157 1 [.int (nI k), .int (nI n), v] h (some (.int (nI k))) h := by
  rcases hv with rfl | rfl
  · refine Con.mkN (by decide) rfl ?_
    refine r_iload_0 dJ3_checkIndex_8e157_0 ?_
    refine r_if_lt 9 dJ3_checkIndex_8e157_1 (by decide) (fun q => absurd q (nI_pos (by omega))) (fun _ => ?_)
    refine r_iload_0 dJ3_checkIndex_8e157_4 ?_
    refine r_iload_1 dJ3_checkIndex_8e157_5 ?_
    refine r_icmpN_lt 16 dJ3_checkIndex_8e157_6 (by decide) (by omega) (by omega) (fun _ => ?_) (fun q => absurd hk q)
    refine r_iload_0 dJ3_checkIndex_8e157_16 ?_
    refine r_iret dJ3_checkIndex_8e157_17 rfl ?_
    exact ⟨rfl, rfl⟩
  · refine Con.mk (by decide) ?_
    show RT _ _ 0 [some (.int (nI k)), some (.int (nI n)), some (.ref 4000)] [] _ _
    refine r_iload_0 dJ3_checkIndex_8e157_0 ?_
    refine r_if_lt 9 dJ3_checkIndex_8e157_1 (by decide) (fun q => absurd q (nI_pos (by omega))) (fun _ => ?_)
    refine r_iload_0 dJ3_checkIndex_8e157_4 ?_
    refine r_iload_1 dJ3_checkIndex_8e157_5 ?_
    refine r_icmpN_lt 16 dJ3_checkIndex_8e157_6 (by decide) (by omega) (by omega) (fun _ => ?_) (fun q => absurd hk q)
    refine r_iload_0 dJ3_checkIndex_8e157_16 ?_
    refine r_iret dJ3_checkIndex_8e157_17 rfl ?_
    exact ⟨rfl, rfl⟩

set_option maxRecDepth 100000 in
set_option maxHeartbeats 4000000 in
theorem t_check (h : PH) {k n : Nat} (hk : k < n) (hn : n < 1000) : ConF mJ0_checkIndex_df160 2 [.int (nI k), .int (nI n)] h none h := by
  refine Con.mk (by decide) ?_
  show RT _ _ 0 [some (.int (nI k)), some (.int (nI n))] [] _ _
  refine r_iload_0 dJ0_checkIndex_df160_0 ?_
  refine r_iload_1 dJ0_checkIndex_df160_1 ?_
  refine r_gfmt rfl dJ0_checkIndex_df160_2 (fun v hv => ?_)
  refine rt_callS (M' := mJ3_checkIndex_8e157) (as := [.int (nI k), .int (nI n), v]) (d' := 1) dJ0_checkIndex_df160_5 ml_J0_1059 mo_J3_checkIndex_8e157 (t_check3 h hk hn hv) (by decide) rfl rfl rfl (fun a h1 q => ?_)
  obtain ⟨rfl, rfl⟩ := q
  refine r_popi dJ0_checkIndex_df160_8 ?_
  refine r_vret dJ0_checkIndex_df160_9 rfl ?_
  exact ⟨rfl, rfl⟩

theorem chv : ∀ i, i < 6 → ∀ j, j < strN.getD i 0 → ((((strB.getD i []).getD j 0) &&& 255).toUInt32 % 65536).toInt32 = (strB.getD i []).getD j 0 := by decide +kernel
theorem chn : ∀ i, i < 6 → ∀ j, j < strN.getD i 0 → narrow .char (.int ((strB.getD i []).getD j 0)) = .int ((strB.getD i []).getD j 0) := by decide +kernel
set_option maxRecDepth 100000 in
set_option maxHeartbeats 4000000 in
theorem t_char1 (h : PH) {i j : Nat} (hi : i < 6) (hj : j < strN.getD i 0) : ConF mJ1_charAt_3b067 3 [.ref (3000 + i), .int (nI j)] h (some (.int ((strB.getD i []).getD j 0))) h := by
  refine Con.mk (by decide) ?_
  show RT _ _ 0 [some (.ref (3000 + i)), some (.int (nI j))] [] _ _
  have h5 := strN_le i hi
  refine r_iload_1 dJ1_charAt_3b067_0 ?_
  refine r_aload_0 dJ1_charAt_3b067_1 ?_
  refine r_slen hi dJ1_charAt_3b067_2 ?_
  refine rt_callS (M' := mJ0_checkIndex_df160) (as := [.int (nI j), .int (nI (strN.getD i 0))]) (d' := 2) dJ1_charAt_3b067_3 ml_J1_9 mo_J0_checkIndex_df160 (t_check h hj (by omega)) (by decide) rfl rfl rfl (fun a h1 q => ?_)
  obtain ⟨rfl, rfl⟩ := q
  refine r_aload_0 dJ1_charAt_3b067_6 ?_
  refine r_iload_1 dJ1_charAt_3b067_7 ?_
  refine r_sbald hi hj dJ1_charAt_3b067_8 ?_
  refine r_sipush (v := 255) dJ1_charAt_3b067_9 (by decide) ?_
  refine r_iand dJ1_charAt_3b067_12 ?_
  refine r_i2c dJ1_charAt_3b067_13 ?_
  rw [chv i hi j hj]
  refine r_zret dJ1_charAt_3b067_14 rfl (chn i hi j hj) ?_
  exact ⟨rfl, rfl⟩

set_option maxRecDepth 100000 in
set_option maxHeartbeats 4000000 in
theorem t_charAt (h : PH) {i j : Nat} (hi : i < 6) (hj : j < strN.getD i 0) : ConF mJ0_charAt_5068e 4 [.ref (2000 + i), .int (nI j)] h (some (.int ((strB.getD i []).getD j 0))) h := by
  refine Con.mk (by decide) ?_
  show RT _ _ 0 [some (.ref (2000 + i)), some (.int (nI j))] [] _ _
  refine r_aload_0 dJ0_charAt_5068e_0 ?_
  refine rt_callT hi (M' := mJ0_isLatin1_aae02) (as := []) (d' := 1) dJ0_charAt_5068e_1 ml_J0_492 mo_J0_isLatin1_aae02 (t_latin h hi) (by decide) rfl rfl rfl ?_
  refine r_if_eq 16 dJ0_charAt_5068e_4 (by decide) (fun q => absurd q (by decide)) (fun _ => ?_)
  refine r_aload_0 dJ0_charAt_5068e_7 ?_
  refine r_sval hi rfl dJ0_charAt_5068e_8 ?_
  refine r_iload_1 dJ0_charAt_5068e_11 ?_
  refine rt_callS (M' := mJ1_charAt_3b067) (as := [.ref (3000 + i), .int (nI j)]) (d' := 3) dJ0_charAt_5068e_12 ml_J0_495 mo_J1_charAt_3b067 (t_char1 h hi hj) (by decide) rfl rfl rfl (fun a h1 q => ?_)
  obtain ⟨rfl, rfl⟩ := q
  refine r_zret dJ0_charAt_5068e_15 rfl (chn i hi j hj) ?_
  exact ⟨rfl, rfl⟩

