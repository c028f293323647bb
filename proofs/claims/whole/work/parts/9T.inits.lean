/-! ===== the constructors ===== -/
theorem mo_obj : Cond.instanceMethod Lib.objectInit ∈ rt_tbl ∧ Cond.code Lib.objectInit ⟨#[0xb1]⟩ 1 none ∈ rt_tbl := ⟨in_rt (List.mem_of_getElem? (i := 141) (by decide +kernel)) (by decide +kernel), in_rt (List.mem_of_getElem? (i := 142) (by decide +kernel)) (by decide +kernel)⟩
theorem ob_X0 : Cond.methodLink RX0 3 Lib.objectInit ∈ rt_tbl := in_rt (List.mem_of_getElem? (i := 406) (by decide +kernel)) (by decide +kernel)
theorem in_X0 : Cond.instantiable (cR 0) (nfl 0) ∈ rt_tbl ∧ Cond.initialized (cR 0) ∈ rt_tbl ∧ Cond.code mX0_init.1 mX0_init.2.1 mX0_init.2.2.1 mX0_init.2.2.2 ∈ rt_tbl ∧ Cond.instanceMethod mX0_init.1 ∈ rt_tbl := ⟨in_rt (List.mem_of_getElem? (i := 402) (by decide +kernel)) (by decide +kernel), in_rt (List.mem_of_getElem? (i := 120) (by decide +kernel)) (by decide +kernel), in_rt (List.mem_of_getElem? (i := 405) (by decide +kernel)) (by decide +kernel), in_rt (List.mem_of_getElem? (i := 404) (by decide +kernel)) (by decide +kernel)⟩
theorem ob_X1 : Cond.methodLink RX1 3 Lib.objectInit ∈ rt_tbl := in_rt (List.mem_of_getElem? (i := 426) (by decide +kernel)) (by decide +kernel)
theorem in_X1 : Cond.instantiable (cR 1) (nfl 1) ∈ rt_tbl ∧ Cond.initialized (cR 1) ∈ rt_tbl ∧ Cond.code mX1_init.1 mX1_init.2.1 mX1_init.2.2.1 mX1_init.2.2.2 ∈ rt_tbl ∧ Cond.instanceMethod mX1_init.1 ∈ rt_tbl := ⟨in_rt (List.mem_of_getElem? (i := 422) (by decide +kernel)) (by decide +kernel), in_rt (List.mem_of_getElem? (i := 121) (by decide +kernel)) (by decide +kernel), in_rt (List.mem_of_getElem? (i := 425) (by decide +kernel)) (by decide +kernel), in_rt (List.mem_of_getElem? (i := 424) (by decide +kernel)) (by decide +kernel)⟩
theorem ob_X2 : Cond.methodLink RX2 3 Lib.objectInit ∈ rt_tbl := in_rt (List.mem_of_getElem? (i := 154) (by decide +kernel)) (by decide +kernel)
theorem in_X2 : Cond.instantiable (cR 2) (nfl 2) ∈ rt_tbl ∧ Cond.initialized (cR 2) ∈ rt_tbl ∧ Cond.code mX2_init.1 mX2_init.2.1 mX2_init.2.2.1 mX2_init.2.2.2 ∈ rt_tbl ∧ Cond.instanceMethod mX2_init.1 ∈ rt_tbl := ⟨in_rt (List.mem_of_getElem? (i := 150) (by decide +kernel)) (by decide +kernel), in_rt (List.mem_of_getElem? (i := 116) (by decide +kernel)) (by decide +kernel), in_rt (List.mem_of_getElem? (i := 153) (by decide +kernel)) (by decide +kernel), in_rt (List.mem_of_getElem? (i := 152) (by decide +kernel)) (by decide +kernel)⟩
theorem ob_X3 : Cond.methodLink RX3 3 Lib.objectInit ∈ rt_tbl := in_rt (List.mem_of_getElem? (i := 148) (by decide +kernel)) (by decide +kernel)
theorem in_X3 : Cond.instantiable (cR 3) (nfl 3) ∈ rt_tbl ∧ Cond.initialized (cR 3) ∈ rt_tbl ∧ Cond.code mX3_init.1 mX3_init.2.1 mX3_init.2.2.1 mX3_init.2.2.2 ∈ rt_tbl ∧ Cond.instanceMethod mX3_init.1 ∈ rt_tbl := ⟨in_rt (List.mem_of_getElem? (i := 144) (by decide +kernel)) (by decide +kernel), in_rt (List.mem_of_getElem? (i := 115) (by decide +kernel)) (by decide +kernel), in_rt (List.mem_of_getElem? (i := 147) (by decide +kernel)) (by decide +kernel), in_rt (List.mem_of_getElem? (i := 146) (by decide +kernel)) (by decide +kernel)⟩
theorem ob_X4 : Cond.methodLink RX4 3 Lib.objectInit ∈ rt_tbl := in_rt (List.mem_of_getElem? (i := 328) (by decide +kernel)) (by decide +kernel)
theorem in_X4 : Cond.instantiable (cR 4) (nfl 4) ∈ rt_tbl ∧ Cond.initialized (cR 4) ∈ rt_tbl ∧ Cond.code mX4_init.1 mX4_init.2.1 mX4_init.2.2.1 mX4_init.2.2.2 ∈ rt_tbl ∧ Cond.instanceMethod mX4_init.1 ∈ rt_tbl := ⟨in_rt (List.mem_of_getElem? (i := 324) (by decide +kernel)) (by decide +kernel), in_rt (List.mem_of_getElem? (i := 119) (by decide +kernel)) (by decide +kernel), in_rt (List.mem_of_getElem? (i := 327) (by decide +kernel)) (by decide +kernel), in_rt (List.mem_of_getElem? (i := 326) (by decide +kernel)) (by decide +kernel)⟩
theorem ob_X5 : Cond.methodLink RX5 3 Lib.objectInit ∈ rt_tbl := in_rt (List.mem_of_getElem? (i := 281) (by decide +kernel)) (by decide +kernel)
theorem in_X5 : Cond.instantiable (cR 5) (nfl 5) ∈ rt_tbl ∧ Cond.initialized (cR 5) ∈ rt_tbl ∧ Cond.code mX5_init.1 mX5_init.2.1 mX5_init.2.2.1 mX5_init.2.2.2 ∈ rt_tbl ∧ Cond.instanceMethod mX5_init.1 ∈ rt_tbl := ⟨in_rt (List.mem_of_getElem? (i := 277) (by decide +kernel)) (by decide +kernel), in_rt (List.mem_of_getElem? (i := 118) (by decide +kernel)) (by decide +kernel), in_rt (List.mem_of_getElem? (i := 280) (by decide +kernel)) (by decide +kernel), in_rt (List.mem_of_getElem? (i := 279) (by decide +kernel)) (by decide +kernel)⟩
theorem ob_X6 : Cond.methodLink RX6 3 Lib.objectInit ∈ rt_tbl := in_rt (List.mem_of_getElem? (i := 273) (by decide +kernel)) (by decide +kernel)
theorem in_X6 : Cond.instantiable (cR 6) (nfl 6) ∈ rt_tbl ∧ Cond.initialized (cR 6) ∈ rt_tbl ∧ Cond.code mX6_init.1 mX6_init.2.1 mX6_init.2.2.1 mX6_init.2.2.2 ∈ rt_tbl ∧ Cond.instanceMethod mX6_init.1 ∈ rt_tbl := ⟨in_rt (List.mem_of_getElem? (i := 269) (by decide +kernel)) (by decide +kernel), in_rt (List.mem_of_getElem? (i := 117) (by decide +kernel)) (by decide +kernel), in_rt (List.mem_of_getElem? (i := 272) (by decide +kernel)) (by decide +kernel), in_rt (List.mem_of_getElem? (i := 271) (by decide +kernel)) (by decide +kernel)⟩
theorem ob_X7 : Cond.methodLink RX7 3 Lib.objectInit ∈ rt_tbl := in_rt (List.mem_of_getElem? (i := 140) (by decide +kernel)) (by decide +kernel)
theorem in_X7 : Cond.instantiable (cR 7) (nfl 7) ∈ rt_tbl ∧ Cond.initialized (cR 7) ∈ rt_tbl ∧ Cond.code mX7_init.1 mX7_init.2.1 mX7_init.2.2.1 mX7_init.2.2.2 ∈ rt_tbl ∧ Cond.instanceMethod mX7_init.1 ∈ rt_tbl := ⟨in_rt (List.mem_of_getElem? (i := 136) (by decide +kernel)) (by decide +kernel), in_rt (List.mem_of_getElem? (i := 114) (by decide +kernel)) (by decide +kernel), in_rt (List.mem_of_getElem? (i := 139) (by decide +kernel)) (by decide +kernel), in_rt (List.mem_of_getElem? (i := 138) (by decide +kernel)) (by decide +kernel)⟩
theorem ob_X8 : Cond.methodLink RX8 3 Lib.objectInit ∈ rt_tbl := in_rt (List.mem_of_getElem? (i := 1141) (by decide +kernel)) (by decide +kernel)
theorem in_X8 : Cond.instantiable (cR 8) (nfl 8) ∈ rt_tbl ∧ Cond.initialized (cR 8) ∈ rt_tbl ∧ Cond.code mX8_init.1 mX8_init.2.1 mX8_init.2.2.1 mX8_init.2.2.2 ∈ rt_tbl ∧ Cond.instanceMethod mX8_init.1 ∈ rt_tbl := ⟨in_rt (List.mem_of_getElem? (i := 1137) (by decide +kernel)) (by decide +kernel), in_rt (List.mem_of_getElem? (i := 122) (by decide +kernel)) (by decide +kernel), in_rt (List.mem_of_getElem? (i := 1140) (by decide +kernel)) (by decide +kernel), in_rt (List.mem_of_getElem? (i := 1139) (by decide +kernel)) (by decide +kernel)⟩
theorem ar_int : Cond.arrayClass .int ∈ rt_tbl := in_rt (List.mem_of_getElem? (i := 228) (by decide +kernel)) (by decide +kernel)
theorem ar_long : Cond.arrayClass .long ∈ rt_tbl := in_rt (List.mem_of_getElem? (i := 227) (by decide +kernel)) (by decide +kernel)
theorem ar_byte : Cond.arrayClass .byte ∈ rt_tbl := in_rt (List.mem_of_getElem? (i := 226) (by decide +kernel)) (by decide +kernel)
theorem ar_boolean : Cond.arrayClass .boolean ∈ rt_tbl := in_rt (List.mem_of_getElem? (i := 1308) (by decide +kernel)) (by decide +kernel)
theorem cl_X7_19 : Cond.classLink RX7 19 (cR 3) ∈ rt_tbl := in_rt (List.mem_of_getElem? (i := 143) (by decide +kernel)) (by decide +kernel)
theorem cl_X7_26 : Cond.classLink RX7 26 (cR 6) ∈ rt_tbl := in_rt (List.mem_of_getElem? (i := 268) (by decide +kernel)) (by decide +kernel)
theorem cl_X7_44 : Cond.classLink RX7 44 (cR 0) ∈ rt_tbl := in_rt (List.mem_of_getElem? (i := 401) (by decide +kernel)) (by decide +kernel)
theorem cl_X7_51 : Cond.classLink RX7 51 (cR 1) ∈ rt_tbl := in_rt (List.mem_of_getElem? (i := 421) (by decide +kernel)) (by decide +kernel)
theorem cl_X3_9 : Cond.classLink RX3 9 (cR 2) ∈ rt_tbl := in_rt (List.mem_of_getElem? (i := 149) (by decide +kernel)) (by decide +kernel)
theorem cl_X6_9 : Cond.classLink RX6 9 (cR 2) ∈ rt_tbl := in_rt (List.mem_of_getElem? (i := 274) (by decide +kernel)) (by decide +kernel)
theorem cl_X6_18 : Cond.classLink RX6 18 (cR 5) ∈ rt_tbl := in_rt (List.mem_of_getElem? (i := 276) (by decide +kernel)) (by decide +kernel)
theorem cl_X6_25 : Cond.classLink RX6 25 (cR 4) ∈ rt_tbl := in_rt (List.mem_of_getElem? (i := 323) (by decide +kernel)) (by decide +kernel)
def fd0 : List Value := [.int 0, .null, .null, .null]
theorem fd0_d : ∀ x, x < nfl 0 → defaultValue (cTy 0 x) = vp_V fd0 x := by decide +kernel
theorem fd0_t (ad : Nat → Nat) : fd0.map (tr ad) = fd0 := rfl
theorem mi_X0 : mX0_init.1.cls = cR 0 ∧ mX0_init.1.name = "<init>" ∧ mX0_init.2.2.1 = 1 ∧ mX0_init.2.2.2 = none ∧ mX0_init.1.cls ≠ "java/lang/invoke/MethodHandle" ∧ mX0_init.1.cls ≠ "java/lang/invoke/VarHandle" ∧ (parseMethodDescriptor mX0_init.1.desc).map (fun d => d.parameters.length) = some 0 := ⟨by decide +kernel, by decide +kernel, by decide +kernel, by decide +kernel, by decide +kernel, by decide +kernel, by decide +kernel⟩
def fd1 : List Value := [.int 0, .null, .int 0, .int 0, .int 0, .long 0]
theorem fd1_d : ∀ x, x < nfl 1 → defaultValue (cTy 1 x) = vp_V fd1 x := by decide +kernel
theorem fd1_t (ad : Nat → Nat) : fd1.map (tr ad) = fd1 := rfl
theorem mi_X1 : mX1_init.1.cls = cR 1 ∧ mX1_init.1.name = "<init>" ∧ mX1_init.2.2.1 = 1 ∧ mX1_init.2.2.2 = none ∧ mX1_init.1.cls ≠ "java/lang/invoke/MethodHandle" ∧ mX1_init.1.cls ≠ "java/lang/invoke/VarHandle" ∧ (parseMethodDescriptor mX1_init.1.desc).map (fun d => d.parameters.length) = some 0 := ⟨by decide +kernel, by decide +kernel, by decide +kernel, by decide +kernel, by decide +kernel, by decide +kernel, by decide +kernel⟩
def fd2 : List Value := [.int 0, .int 0, .int 0, .int 0, .null, .null, .null, .null, .null, .null, .null, .null, .null]
theorem fd2_d : ∀ x, x < nfl 2 → defaultValue (cTy 2 x) = vp_V fd2 x := by decide +kernel
theorem fd2_t (ad : Nat → Nat) : fd2.map (tr ad) = fd2 := rfl
theorem mi_X2 : mX2_init.1.cls = cR 2 ∧ mX2_init.1.name = "<init>" ∧ mX2_init.2.2.1 = 1 ∧ mX2_init.2.2.2 = none ∧ mX2_init.1.cls ≠ "java/lang/invoke/MethodHandle" ∧ mX2_init.1.cls ≠ "java/lang/invoke/VarHandle" ∧ (parseMethodDescriptor mX2_init.1.desc).map (fun d => d.parameters.length) = some 0 := ⟨by decide +kernel, by decide +kernel, by decide +kernel, by decide +kernel, by decide +kernel, by decide +kernel, by decide +kernel⟩
def fd3 : List Value := [.null, .null, .int 0, .int 0, .int 0, .int 0, .int 0, .long 0, .int 0, .long 0, .int 0, .int 0]
theorem fd3_d : ∀ x, x < nfl 3 → defaultValue (cTy 3 x) = vp_V fd3 x := by decide +kernel
theorem fd3_t (ad : Nat → Nat) : fd3.map (tr ad) = fd3 := rfl
theorem mi_X3 : mX3_init.1.cls = cR 3 ∧ mX3_init.1.name = "<init>" ∧ mX3_init.2.2.1 = 1 ∧ mX3_init.2.2.2 = none ∧ mX3_init.1.cls ≠ "java/lang/invoke/MethodHandle" ∧ mX3_init.1.cls ≠ "java/lang/invoke/VarHandle" ∧ (parseMethodDescriptor mX3_init.1.desc).map (fun d => d.parameters.length) = some 0 := ⟨by decide +kernel, by decide +kernel, by decide +kernel, by decide +kernel, by decide +kernel, by decide +kernel, by decide +kernel⟩
def fd4 : List Value := [.int 0, .null, .null, .null, .null]
theorem fd4_d : ∀ x, x < nfl 4 → defaultValue (cTy 4 x) = vp_V fd4 x := by decide +kernel
theorem fd4_t (ad : Nat → Nat) : fd4.map (tr ad) = fd4 := rfl
theorem mi_X4 : mX4_init.1.cls = cR 4 ∧ mX4_init.1.name = "<init>" ∧ mX4_init.2.2.1 = 1 ∧ mX4_init.2.2.2 = none ∧ mX4_init.1.cls ≠ "java/lang/invoke/MethodHandle" ∧ mX4_init.1.cls ≠ "java/lang/invoke/VarHandle" ∧ (parseMethodDescriptor mX4_init.1.desc).map (fun d => d.parameters.length) = some 0 := ⟨by decide +kernel, by decide +kernel, by decide +kernel, by decide +kernel, by decide +kernel, by decide +kernel, by decide +kernel⟩
def fd5 : List Value := [.int 0, .int 0, .int 0, .null, .null, .null, .null, .null]
theorem fd5_d : ∀ x, x < nfl 5 → defaultValue (cTy 5 x) = vp_V fd5 x := by decide +kernel
theorem fd5_t (ad : Nat → Nat) : fd5.map (tr ad) = fd5 := rfl
theorem mi_X5 : mX5_init.1.cls = cR 5 ∧ mX5_init.1.name = "<init>" ∧ mX5_init.2.2.1 = 1 ∧ mX5_init.2.2.2 = none ∧ mX5_init.1.cls ≠ "java/lang/invoke/MethodHandle" ∧ mX5_init.1.cls ≠ "java/lang/invoke/VarHandle" ∧ (parseMethodDescriptor mX5_init.1.desc).map (fun d => d.parameters.length) = some 0 := ⟨by decide +kernel, by decide +kernel, by decide +kernel, by decide +kernel, by decide +kernel, by decide +kernel, by decide +kernel⟩
def fd6 : List Value := [.null, .null, .null, .null, .null, .null, .null, .int 0, .null, .int 0, .int 0, .int 0, .int 0]
theorem fd6_d : ∀ x, x < nfl 6 → defaultValue (cTy 6 x) = vp_V fd6 x := by decide +kernel
theorem fd6_t (ad : Nat → Nat) : fd6.map (tr ad) = fd6 := rfl
theorem mi_X6 : mX6_init.1.cls = cR 6 ∧ mX6_init.1.name = "<init>" ∧ mX6_init.2.2.1 = 1 ∧ mX6_init.2.2.2 = none ∧ mX6_init.1.cls ≠ "java/lang/invoke/MethodHandle" ∧ mX6_init.1.cls ≠ "java/lang/invoke/VarHandle" ∧ (parseMethodDescriptor mX6_init.1.desc).map (fun d => d.parameters.length) = some 0 := ⟨by decide +kernel, by decide +kernel, by decide +kernel, by decide +kernel, by decide +kernel, by decide +kernel, by decide +kernel⟩
def fd7 : List Value := [.null, .int 0, .int 0, .int 0, .int 0, .null, .null, .null, .null, .null, .null, .null]
theorem fd7_d : ∀ x, x < nfl 7 → defaultValue (cTy 7 x) = vp_V fd7 x := by decide +kernel
theorem fd7_t (ad : Nat → Nat) : fd7.map (tr ad) = fd7 := rfl
theorem mi_X7 : mX7_init.1.cls = cR 7 ∧ mX7_init.1.name = "<init>" ∧ mX7_init.2.2.1 = 1 ∧ mX7_init.2.2.2 = none ∧ mX7_init.1.cls ≠ "java/lang/invoke/MethodHandle" ∧ mX7_init.1.cls ≠ "java/lang/invoke/VarHandle" ∧ (parseMethodDescriptor mX7_init.1.desc).map (fun d => d.parameters.length) = some 0 := ⟨by decide +kernel, by decide +kernel, by decide +kernel, by decide +kernel, by decide +kernel, by decide +kernel, by decide +kernel⟩
def fd8 : List Value := [.int 0, .int 0, .int 0, .int 0, .null, .int 0, .int 0, .int 0, .null, .null, .null, .null, .null, .null, .null, .null, .null, .int 0, .int 0, .int 0, .int 0, .int 0, .int 0, .int 0, .int 0, .int 0, .int 0, .int 0, .int 0, .int 0, .null, .null, .int 0, .null, .int 0, .null, .null, .null, .null, .int 0, .int 0, .int 0, .null, .null, .int 0, .int 0, .int 0, .int 0, .long 0, .null, .null, .int 0, .null, .null, .null]
theorem fd8_d : ∀ x, x < nfl 8 → defaultValue (cTy 8 x) = vp_V fd8 x := by decide +kernel
theorem fd8_t (ad : Nat → Nat) : fd8.map (tr ad) = fd8 := rfl
theorem mi_X8 : mX8_init.1.cls = cR 8 ∧ mX8_init.1.name = "<init>" ∧ mX8_init.2.2.1 = 1 ∧ mX8_init.2.2.2 = none ∧ mX8_init.1.cls ≠ "java/lang/invoke/MethodHandle" ∧ mX8_init.1.cls ≠ "java/lang/invoke/VarHandle" ∧ (parseMethodDescriptor mX8_init.1.desc).map (fun d => d.parameters.length) = some 0 := ⟨by decide +kernel, by decide +kernel, by decide +kernel, by decide +kernel, by decide +kernel, by decide +kernel, by decide +kernel⟩
set_option maxRecDepth 20000 in
theorem kc_X2_3 : KCon mX2_init 1 3 2 9 181 fd2 := by
  refine KCon.of (by decide) rfl rfl rfl ?_
  refine kt_aload dX2_init_0 rfl ?_
  refine kt_obj dX2_init_1 ob_X2 mo_obj (by decide) ?_
  refine kt_aload dX2_init_4 rfl ?_
  refine kt_bipush (v := 9) dX2_init_5 (by decide) ?_
  refine kt_newa (atype := .long) (ty := .long) (N := 9) dX2_init_7 rfl (by simp) ar_long rfl ⟨by decide, by decide⟩ (Nat.le_of_ble_eq_true rfl) (Nat.le_of_ble_eq_true rfl) (Nat.le_of_ble_eq_true rfl) ?_
  refine kt_put (v := .ref 4) dX2_init_9 fl_X2_9 (by decide +kernel) (fun _ => rfl) (fun _ => rfl) (Nat.le_of_ble_eq_true rfl) (Nat.le_of_ble_eq_true rfl) ?_
  refine kt_aload dX2_init_12 rfl ?_
  refine kt_bipush (v := 9) dX2_init_13 (by decide) ?_
  refine kt_newa (atype := .int) (ty := .int) (N := 9) dX2_init_15 rfl (by simp) ar_int rfl ⟨by decide, by decide⟩ (Nat.le_of_ble_eq_true rfl) (Nat.le_of_ble_eq_true rfl) (Nat.le_of_ble_eq_true rfl) ?_
  refine kt_put (v := .ref 5) dX2_init_17 fl_X2_15 (by decide +kernel) (fun _ => rfl) (fun _ => rfl) (Nat.le_of_ble_eq_true rfl) (Nat.le_of_ble_eq_true rfl) ?_
  refine kt_aload dX2_init_20 rfl ?_
  refine kt_bipush (v := 9) dX2_init_21 (by decide) ?_
  refine kt_newa (atype := .int) (ty := .int) (N := 9) dX2_init_23 rfl (by simp) ar_int rfl ⟨by decide, by decide⟩ (Nat.le_of_ble_eq_true rfl) (Nat.le_of_ble_eq_true rfl) (Nat.le_of_ble_eq_true rfl) ?_
  refine kt_put (v := .ref 6) dX2_init_25 fl_X2_19 (by decide +kernel) (fun _ => rfl) (fun _ => rfl) (Nat.le_of_ble_eq_true rfl) (Nat.le_of_ble_eq_true rfl) ?_
  refine kt_aload dX2_init_28 rfl ?_
  refine kt_bipush (v := 14) dX2_init_29 (by decide) ?_
  refine kt_newa (atype := .int) (ty := .int) (N := 14) dX2_init_31 rfl (by simp) ar_int rfl ⟨by decide, by decide⟩ (Nat.le_of_ble_eq_true rfl) (Nat.le_of_ble_eq_true rfl) (Nat.le_of_ble_eq_true rfl) ?_
  refine kt_put (v := .ref 7) dX2_init_33 fl_X2_22 (by decide +kernel) (fun _ => rfl) (fun _ => rfl) (Nat.le_of_ble_eq_true rfl) (Nat.le_of_ble_eq_true rfl) ?_
  refine kt_aload dX2_init_36 rfl ?_
  refine kt_bipush (v := 14) dX2_init_37 (by decide) ?_
  refine kt_newa (atype := .int) (ty := .int) (N := 14) dX2_init_39 rfl (by simp) ar_int rfl ⟨by decide, by decide⟩ (Nat.le_of_ble_eq_true rfl) (Nat.le_of_ble_eq_true rfl) (Nat.le_of_ble_eq_true rfl) ?_
  refine kt_put (v := .ref 8) dX2_init_41 fl_X2_25 (by decide +kernel) (fun _ => rfl) (fun _ => rfl) (Nat.le_of_ble_eq_true rfl) (Nat.le_of_ble_eq_true rfl) ?_
  refine kt_aload dX2_init_44 rfl ?_
  refine kt_bipush (v := 14) dX2_init_45 (by decide) ?_
  refine kt_newa (atype := .int) (ty := .int) (N := 14) dX2_init_47 rfl (by simp) ar_int rfl ⟨by decide, by decide⟩ (Nat.le_of_ble_eq_true rfl) (Nat.le_of_ble_eq_true rfl) (Nat.le_of_ble_eq_true rfl) ?_
  refine kt_put (v := .ref 9) dX2_init_49 fl_X2_28 (by decide +kernel) (fun _ => rfl) (fun _ => rfl) (Nat.le_of_ble_eq_true rfl) (Nat.le_of_ble_eq_true rfl) ?_
  refine kt_aload dX2_init_52 rfl ?_
  refine kt_bipush (v := 14) dX2_init_53 (by decide) ?_
  refine kt_newa (atype := .int) (ty := .int) (N := 14) dX2_init_55 rfl (by simp) ar_int rfl ⟨by decide, by decide⟩ (Nat.le_of_ble_eq_true rfl) (Nat.le_of_ble_eq_true rfl) (Nat.le_of_ble_eq_true rfl) ?_
  refine kt_put (v := .ref 10) dX2_init_57 fl_X2_31 (by decide +kernel) (fun _ => rfl) (fun _ => rfl) (Nat.le_of_ble_eq_true rfl) (Nat.le_of_ble_eq_true rfl) ?_
  refine kt_aload dX2_init_60 rfl ?_
  refine kt_bipush (v := 14) dX2_init_61 (by decide) ?_
  refine kt_newa (atype := .int) (ty := .int) (N := 14) dX2_init_63 rfl (by simp) ar_int rfl ⟨by decide, by decide⟩ (Nat.le_of_ble_eq_true rfl) (Nat.le_of_ble_eq_true rfl) (Nat.le_of_ble_eq_true rfl) ?_
  refine kt_put (v := .ref 11) dX2_init_65 fl_X2_34 (by decide +kernel) (fun _ => rfl) (fun _ => rfl) (Nat.le_of_ble_eq_true rfl) (Nat.le_of_ble_eq_true rfl) ?_
  refine kt_aload dX2_init_68 rfl ?_
  refine kt_bipush (v := 84) dX2_init_69 (by decide) ?_
  refine kt_newa (atype := .int) (ty := .int) (N := 84) dX2_init_71 rfl (by simp) ar_int rfl ⟨by decide, by decide⟩ (Nat.le_of_ble_eq_true rfl) (Nat.le_of_ble_eq_true rfl) (Nat.le_of_ble_eq_true rfl) ?_
  refine kt_put (v := .ref 12) dX2_init_73 fl_X2_37 (by decide +kernel) (fun _ => rfl) (fun _ => rfl) (Nat.le_of_ble_eq_true rfl) (Nat.le_of_ble_eq_true rfl) ?_
  exact kt_ret dX2_init_76 rfl (fun _ => rfl) rfl rfl
set_option maxRecDepth 20000 in
theorem kc_X3_2 : KCon mX3_init 2 2 3 11 194 fd3 := by
  refine KCon.of (by decide) rfl rfl rfl ?_
  refine kt_aload dX3_init_0 rfl ?_
  refine kt_obj dX3_init_1 ob_X3 mo_obj (by decide) ?_
  refine kt_aload dX3_init_4 rfl ?_
  refine kt_make (M' := mX2_init) (cx := 2) (fx := fd2) dX3_init_5 dX3_init_8 dX3_init_9 cl_X3_9 in_X2.1 in_X2.2.1 (by decide) fd2_d fd2_t (List.mem_of_getElem? (i := 4) rfl) mi_X2 in_X2.2.2.1 in_X2.2.2.2 kc_X2_3 (by decide) (Nat.le_of_ble_eq_true rfl) (Nat.le_of_ble_eq_true rfl) (Nat.le_of_ble_eq_true rfl) rfl ?_
  refine kt_put (v := .ref 3) dX3_init_12 fl_X3_12 (by decide +kernel) (fun _ => rfl) (fun _ => rfl) (Nat.le_of_ble_eq_true rfl) (Nat.le_of_ble_eq_true rfl) ?_
  refine kt_aload dX3_init_15 rfl ?_
  refine kt_iconst (v := 0) dX3_init_16 (by decide) ?_
  refine kt_newa (atype := .byte) (ty := .byte) (N := 0) dX3_init_17 rfl (by simp) ar_byte rfl ⟨by decide, by decide⟩ (Nat.le_of_ble_eq_true rfl) (Nat.le_of_ble_eq_true rfl) (Nat.le_of_ble_eq_true rfl) ?_
  refine kt_put (v := .ref 13) dX3_init_19 fl_X3_18 (by decide +kernel) (fun _ => rfl) (fun _ => rfl) (Nat.le_of_ble_eq_true rfl) (Nat.le_of_ble_eq_true rfl) ?_
  exact kt_ret dX3_init_22 rfl (fun _ => rfl) rfl rfl
set_option maxRecDepth 20000 in
theorem kc_X2_15 : KCon mX2_init 1 15 2 9 181 fd2 := by
  refine KCon.of (by decide) rfl rfl rfl ?_
  refine kt_aload dX2_init_0 rfl ?_
  refine kt_obj dX2_init_1 ob_X2 mo_obj (by decide) ?_
  refine kt_aload dX2_init_4 rfl ?_
  refine kt_bipush (v := 9) dX2_init_5 (by decide) ?_
  refine kt_newa (atype := .long) (ty := .long) (N := 9) dX2_init_7 rfl (by simp) ar_long rfl ⟨by decide, by decide⟩ (Nat.le_of_ble_eq_true rfl) (Nat.le_of_ble_eq_true rfl) (Nat.le_of_ble_eq_true rfl) ?_
  refine kt_put (v := .ref 16) dX2_init_9 fl_X2_9 (by decide +kernel) (fun _ => rfl) (fun _ => rfl) (Nat.le_of_ble_eq_true rfl) (Nat.le_of_ble_eq_true rfl) ?_
  refine kt_aload dX2_init_12 rfl ?_
  refine kt_bipush (v := 9) dX2_init_13 (by decide) ?_
  refine kt_newa (atype := .int) (ty := .int) (N := 9) dX2_init_15 rfl (by simp) ar_int rfl ⟨by decide, by decide⟩ (Nat.le_of_ble_eq_true rfl) (Nat.le_of_ble_eq_true rfl) (Nat.le_of_ble_eq_true rfl) ?_
  refine kt_put (v := .ref 17) dX2_init_17 fl_X2_15 (by decide +kernel) (fun _ => rfl) (fun _ => rfl) (Nat.le_of_ble_eq_true rfl) (Nat.le_of_ble_eq_true rfl) ?_
  refine kt_aload dX2_init_20 rfl ?_
  refine kt_bipush (v := 9) dX2_init_21 (by decide) ?_
  refine kt_newa (atype := .int) (ty := .int) (N := 9) dX2_init_23 rfl (by simp) ar_int rfl ⟨by decide, by decide⟩ (Nat.le_of_ble_eq_true rfl) (Nat.le_of_ble_eq_true rfl) (Nat.le_of_ble_eq_true rfl) ?_
  refine kt_put (v := .ref 18) dX2_init_25 fl_X2_19 (by decide +kernel) (fun _ => rfl) (fun _ => rfl) (Nat.le_of_ble_eq_true rfl) (Nat.le_of_ble_eq_true rfl) ?_
  refine kt_aload dX2_init_28 rfl ?_
  refine kt_bipush (v := 14) dX2_init_29 (by decide) ?_
  refine kt_newa (atype := .int) (ty := .int) (N := 14) dX2_init_31 rfl (by simp) ar_int rfl ⟨by decide, by decide⟩ (Nat.le_of_ble_eq_true rfl) (Nat.le_of_ble_eq_true rfl) (Nat.le_of_ble_eq_true rfl) ?_
  refine kt_put (v := .ref 19) dX2_init_33 fl_X2_22 (by decide +kernel) (fun _ => rfl) (fun _ => rfl) (Nat.le_of_ble_eq_true rfl) (Nat.le_of_ble_eq_true rfl) ?_
  refine kt_aload dX2_init_36 rfl ?_
  refine kt_bipush (v := 14) dX2_init_37 (by decide) ?_
  refine kt_newa (atype := .int) (ty := .int) (N := 14) dX2_init_39 rfl (by simp) ar_int rfl ⟨by decide, by decide⟩ (Nat.le_of_ble_eq_true rfl) (Nat.le_of_ble_eq_true rfl) (Nat.le_of_ble_eq_true rfl) ?_
  refine kt_put (v := .ref 20) dX2_init_41 fl_X2_25 (by decide +kernel) (fun _ => rfl) (fun _ => rfl) (Nat.le_of_ble_eq_true rfl) (Nat.le_of_ble_eq_true rfl) ?_
  refine kt_aload dX2_init_44 rfl ?_
  refine kt_bipush (v := 14) dX2_init_45 (by decide) ?_
  refine kt_newa (atype := .int) (ty := .int) (N := 14) dX2_init_47 rfl (by simp) ar_int rfl ⟨by decide, by decide⟩ (Nat.le_of_ble_eq_true rfl) (Nat.le_of_ble_eq_true rfl) (Nat.le_of_ble_eq_true rfl) ?_
  refine kt_put (v := .ref 21) dX2_init_49 fl_X2_28 (by decide +kernel) (fun _ => rfl) (fun _ => rfl) (Nat.le_of_ble_eq_true rfl) (Nat.le_of_ble_eq_true rfl) ?_
  refine kt_aload dX2_init_52 rfl ?_
  refine kt_bipush (v := 14) dX2_init_53 (by decide) ?_
  refine kt_newa (atype := .int) (ty := .int) (N := 14) dX2_init_55 rfl (by simp) ar_int rfl ⟨by decide, by decide⟩ (Nat.le_of_ble_eq_true rfl) (Nat.le_of_ble_eq_true rfl) (Nat.le_of_ble_eq_true rfl) ?_
  refine kt_put (v := .ref 22) dX2_init_57 fl_X2_31 (by decide +kernel) (fun _ => rfl) (fun _ => rfl) (Nat.le_of_ble_eq_true rfl) (Nat.le_of_ble_eq_true rfl) ?_
  refine kt_aload dX2_init_60 rfl ?_
  refine kt_bipush (v := 14) dX2_init_61 (by decide) ?_
  refine kt_newa (atype := .int) (ty := .int) (N := 14) dX2_init_63 rfl (by simp) ar_int rfl ⟨by decide, by decide⟩ (Nat.le_of_ble_eq_true rfl) (Nat.le_of_ble_eq_true rfl) (Nat.le_of_ble_eq_true rfl) ?_
  refine kt_put (v := .ref 23) dX2_init_65 fl_X2_34 (by decide +kernel) (fun _ => rfl) (fun _ => rfl) (Nat.le_of_ble_eq_true rfl) (Nat.le_of_ble_eq_true rfl) ?_
  refine kt_aload dX2_init_68 rfl ?_
  refine kt_bipush (v := 84) dX2_init_69 (by decide) ?_
  refine kt_newa (atype := .int) (ty := .int) (N := 84) dX2_init_71 rfl (by simp) ar_int rfl ⟨by decide, by decide⟩ (Nat.le_of_ble_eq_true rfl) (Nat.le_of_ble_eq_true rfl) (Nat.le_of_ble_eq_true rfl) ?_
  refine kt_put (v := .ref 24) dX2_init_73 fl_X2_37 (by decide +kernel) (fun _ => rfl) (fun _ => rfl) (Nat.le_of_ble_eq_true rfl) (Nat.le_of_ble_eq_true rfl) ?_
  exact kt_ret dX2_init_76 rfl (fun _ => rfl) rfl rfl
set_option maxRecDepth 20000 in
theorem kc_X5_25 : KCon mX5_init 1 25 5 5 45 fd5 := by
  refine KCon.of (by decide) rfl rfl rfl ?_
  refine kt_aload dX5_init_0 rfl ?_
  refine kt_obj dX5_init_1 ob_X5 mo_obj (by decide) ?_
  refine kt_aload dX5_init_4 rfl ?_
  refine kt_bipush (v := 9) dX5_init_5 (by decide) ?_
  refine kt_newa (atype := .int) (ty := .int) (N := 9) dX5_init_7 rfl (by simp) ar_int rfl ⟨by decide, by decide⟩ (Nat.le_of_ble_eq_true rfl) (Nat.le_of_ble_eq_true rfl) (Nat.le_of_ble_eq_true rfl) ?_
  refine kt_put (v := .ref 26) dX5_init_9 fl_X5_9 (by decide +kernel) (fun _ => rfl) (fun _ => rfl) (Nat.le_of_ble_eq_true rfl) (Nat.le_of_ble_eq_true rfl) ?_
  refine kt_aload dX5_init_12 rfl ?_
  refine kt_bipush (v := 9) dX5_init_13 (by decide) ?_
  refine kt_newa (atype := .int) (ty := .int) (N := 9) dX5_init_15 rfl (by simp) ar_int rfl ⟨by decide, by decide⟩ (Nat.le_of_ble_eq_true rfl) (Nat.le_of_ble_eq_true rfl) (Nat.le_of_ble_eq_true rfl) ?_
  refine kt_put (v := .ref 27) dX5_init_17 fl_X5_15 (by decide +kernel) (fun _ => rfl) (fun _ => rfl) (Nat.le_of_ble_eq_true rfl) (Nat.le_of_ble_eq_true rfl) ?_
  refine kt_aload dX5_init_20 rfl ?_
  refine kt_bipush (v := 9) dX5_init_21 (by decide) ?_
  refine kt_newa (atype := .int) (ty := .int) (N := 9) dX5_init_23 rfl (by simp) ar_int rfl ⟨by decide, by decide⟩ (Nat.le_of_ble_eq_true rfl) (Nat.le_of_ble_eq_true rfl) (Nat.le_of_ble_eq_true rfl) ?_
  refine kt_put (v := .ref 28) dX5_init_25 fl_X5_18 (by decide +kernel) (fun _ => rfl) (fun _ => rfl) (Nat.le_of_ble_eq_true rfl) (Nat.le_of_ble_eq_true rfl) ?_
  refine kt_aload dX5_init_28 rfl ?_
  refine kt_bipush (v := 9) dX5_init_29 (by decide) ?_
  refine kt_newa (atype := .int) (ty := .int) (N := 9) dX5_init_31 rfl (by simp) ar_int rfl ⟨by decide, by decide⟩ (Nat.le_of_ble_eq_true rfl) (Nat.le_of_ble_eq_true rfl) (Nat.le_of_ble_eq_true rfl) ?_
  refine kt_put (v := .ref 29) dX5_init_33 fl_X5_21 (by decide +kernel) (fun _ => rfl) (fun _ => rfl) (Nat.le_of_ble_eq_true rfl) (Nat.le_of_ble_eq_true rfl) ?_
  refine kt_aload dX5_init_36 rfl ?_
  refine kt_bipush (v := 9) dX5_init_37 (by decide) ?_
  refine kt_newa (atype := .int) (ty := .int) (N := 9) dX5_init_39 rfl (by simp) ar_int rfl ⟨by decide, by decide⟩ (Nat.le_of_ble_eq_true rfl) (Nat.le_of_ble_eq_true rfl) (Nat.le_of_ble_eq_true rfl) ?_
  refine kt_put (v := .ref 30) dX5_init_41 fl_X5_24 (by decide +kernel) (fun _ => rfl) (fun _ => rfl) (Nat.le_of_ble_eq_true rfl) (Nat.le_of_ble_eq_true rfl) ?_
  exact kt_ret dX5_init_44 rfl (fun _ => rfl) rfl rfl
set_option maxRecDepth 20000 in
theorem kc_X4_31 : KCon mX4_init 1 31 4 4 275 fd4 := by
  refine KCon.of (by decide) rfl rfl rfl ?_
  refine kt_aload dX4_init_0 rfl ?_
  refine kt_obj dX4_init_1 ob_X4 mo_obj (by decide) ?_
  refine kt_aload dX4_init_4 rfl ?_
  refine kt_bipush (v := 14) dX4_init_5 (by decide) ?_
  refine kt_newa (atype := .int) (ty := .int) (N := 14) dX4_init_7 rfl (by simp) ar_int rfl ⟨by decide, by decide⟩ (Nat.le_of_ble_eq_true rfl) (Nat.le_of_ble_eq_true rfl) (Nat.le_of_ble_eq_true rfl) ?_
  refine kt_put (v := .ref 32) dX4_init_9 fl_X4_9 (by decide +kernel) (fun _ => rfl) (fun _ => rfl) (Nat.le_of_ble_eq_true rfl) (Nat.le_of_ble_eq_true rfl) ?_
  refine kt_aload dX4_init_12 rfl ?_
  refine kt_bipush (v := 126) dX4_init_13 (by decide) ?_
  refine kt_newa (atype := .int) (ty := .int) (N := 126) dX4_init_15 rfl (by simp) ar_int rfl ⟨by decide, by decide⟩ (Nat.le_of_ble_eq_true rfl) (Nat.le_of_ble_eq_true rfl) (Nat.le_of_ble_eq_true rfl) ?_
  refine kt_put (v := .ref 33) dX4_init_17 fl_X4_15 (by decide +kernel) (fun _ => rfl) (fun _ => rfl) (Nat.le_of_ble_eq_true rfl) (Nat.le_of_ble_eq_true rfl) ?_
  refine kt_aload dX4_init_20 rfl ?_
  refine kt_bipush (v := 126) dX4_init_21 (by decide) ?_
  refine kt_newa (atype := .int) (ty := .int) (N := 126) dX4_init_23 rfl (by simp) ar_int rfl ⟨by decide, by decide⟩ (Nat.le_of_ble_eq_true rfl) (Nat.le_of_ble_eq_true rfl) (Nat.le_of_ble_eq_true rfl) ?_
  refine kt_put (v := .ref 34) dX4_init_25 fl_X4_18 (by decide +kernel) (fun _ => rfl) (fun _ => rfl) (Nat.le_of_ble_eq_true rfl) (Nat.le_of_ble_eq_true rfl) ?_
  refine kt_aload dX4_init_28 rfl ?_
  refine kt_bipush (v := 9) dX4_init_29 (by decide) ?_
  refine kt_newa (atype := .int) (ty := .int) (N := 9) dX4_init_31 rfl (by simp) ar_int rfl ⟨by decide, by decide⟩ (Nat.le_of_ble_eq_true rfl) (Nat.le_of_ble_eq_true rfl) (Nat.le_of_ble_eq_true rfl) ?_
  refine kt_put (v := .ref 35) dX4_init_33 fl_X4_21 (by decide +kernel) (fun _ => rfl) (fun _ => rfl) (Nat.le_of_ble_eq_true rfl) (Nat.le_of_ble_eq_true rfl) ?_
  exact kt_ret dX4_init_36 rfl (fun _ => rfl) rfl rfl
set_option maxRecDepth 20000 in
theorem kc_X6_14 : KCon mX6_init 2 14 6 26 594 fd6 := by
  refine KCon.of (by decide) rfl rfl rfl ?_
  refine kt_aload dX6_init_0 rfl ?_
  refine kt_obj dX6_init_1 ob_X6 mo_obj (by decide) ?_
  refine kt_aload dX6_init_4 rfl ?_
  refine kt_make (M' := mX2_init) (cx := 2) (fx := fd2) dX6_init_5 dX6_init_8 dX6_init_9 cl_X6_9 in_X2.1 in_X2.2.1 (by decide) fd2_d fd2_t (List.mem_of_getElem? (i := 5) rfl) mi_X2 in_X2.2.2.1 in_X2.2.2.2 kc_X2_15 (by decide) (Nat.le_of_ble_eq_true rfl) (Nat.le_of_ble_eq_true rfl) (Nat.le_of_ble_eq_true rfl) rfl ?_
  refine kt_put (v := .ref 15) dX6_init_12 fl_X6_12 (by decide +kernel) (fun _ => rfl) (fun _ => rfl) (Nat.le_of_ble_eq_true rfl) (Nat.le_of_ble_eq_true rfl) ?_
  refine kt_aload dX6_init_15 rfl ?_
  refine kt_make (M' := mX5_init) (cx := 5) (fx := fd5) dX6_init_16 dX6_init_19 dX6_init_20 cl_X6_18 in_X5.1 in_X5.2.1 (by decide) fd5_d fd5_t (List.mem_of_getElem? (i := 6) rfl) mi_X5 in_X5.2.2.1 in_X5.2.2.2 kc_X5_25 (by decide) (Nat.le_of_ble_eq_true rfl) (Nat.le_of_ble_eq_true rfl) (Nat.le_of_ble_eq_true rfl) rfl ?_
  refine kt_put (v := .ref 25) dX6_init_23 fl_X6_21 (by decide +kernel) (fun _ => rfl) (fun _ => rfl) (Nat.le_of_ble_eq_true rfl) (Nat.le_of_ble_eq_true rfl) ?_
  refine kt_aload dX6_init_26 rfl ?_
  refine kt_make (M' := mX4_init) (cx := 4) (fx := fd4) dX6_init_27 dX6_init_30 dX6_init_31 cl_X6_25 in_X4.1 in_X4.2.1 (by decide) fd4_d fd4_t (List.mem_of_getElem? (i := 7) rfl) mi_X4 in_X4.2.2.1 in_X4.2.2.2 kc_X4_31 (by decide) (Nat.le_of_ble_eq_true rfl) (Nat.le_of_ble_eq_true rfl) (Nat.le_of_ble_eq_true rfl) rfl ?_
  refine kt_put (v := .ref 31) dX6_init_34 fl_X6_28 (by decide +kernel) (fun _ => rfl) (fun _ => rfl) (Nat.le_of_ble_eq_true rfl) (Nat.le_of_ble_eq_true rfl) ?_
  refine kt_aload dX6_init_37 rfl ?_
  refine kt_bipush (v := 14) dX6_init_38 (by decide) ?_
  refine kt_newa (atype := .long) (ty := .long) (N := 14) dX6_init_40 rfl (by simp) ar_long rfl ⟨by decide, by decide⟩ (Nat.le_of_ble_eq_true rfl) (Nat.le_of_ble_eq_true rfl) (Nat.le_of_ble_eq_true rfl) ?_
  refine kt_put (v := .ref 36) dX6_init_42 fl_X6_32 (by decide +kernel) (fun _ => rfl) (fun _ => rfl) (Nat.le_of_ble_eq_true rfl) (Nat.le_of_ble_eq_true rfl) ?_
  refine kt_aload dX6_init_45 rfl ?_
  refine kt_bipush (v := 9) dX6_init_46 (by decide) ?_
  refine kt_newa (atype := .long) (ty := .long) (N := 9) dX6_init_48 rfl (by simp) ar_long rfl ⟨by decide, by decide⟩ (Nat.le_of_ble_eq_true rfl) (Nat.le_of_ble_eq_true rfl) (Nat.le_of_ble_eq_true rfl) ?_
  refine kt_put (v := .ref 37) dX6_init_50 fl_X6_36 (by decide +kernel) (fun _ => rfl) (fun _ => rfl) (Nat.le_of_ble_eq_true rfl) (Nat.le_of_ble_eq_true rfl) ?_
  refine kt_aload dX6_init_53 rfl ?_
  refine kt_bipush (v := 9) dX6_init_54 (by decide) ?_
  refine kt_newa (atype := .long) (ty := .long) (N := 9) dX6_init_56 rfl (by simp) ar_long rfl ⟨by decide, by decide⟩ (Nat.le_of_ble_eq_true rfl) (Nat.le_of_ble_eq_true rfl) (Nat.le_of_ble_eq_true rfl) ?_
  refine kt_put (v := .ref 38) dX6_init_58 fl_X6_39 (by decide +kernel) (fun _ => rfl) (fun _ => rfl) (Nat.le_of_ble_eq_true rfl) (Nat.le_of_ble_eq_true rfl) ?_
  refine kt_aload dX6_init_61 rfl ?_
  refine kt_bipush (v := 14) dX6_init_62 (by decide) ?_
  refine kt_newa (atype := .long) (ty := .long) (N := 14) dX6_init_64 rfl (by simp) ar_long rfl ⟨by decide, by decide⟩ (Nat.le_of_ble_eq_true rfl) (Nat.le_of_ble_eq_true rfl) (Nat.le_of_ble_eq_true rfl) ?_
  refine kt_put (v := .ref 39) dX6_init_66 fl_X6_42 (by decide +kernel) (fun _ => rfl) (fun _ => rfl) (Nat.le_of_ble_eq_true rfl) (Nat.le_of_ble_eq_true rfl) ?_
  refine kt_aload dX6_init_69 rfl ?_
  refine kt_bipush (v := 21) dX6_init_70 (by decide) ?_
  refine kt_newa (atype := .int) (ty := .int) (N := 21) dX6_init_72 rfl (by simp) ar_int rfl ⟨by decide, by decide⟩ (Nat.le_of_ble_eq_true rfl) (Nat.le_of_ble_eq_true rfl) (Nat.le_of_ble_eq_true rfl) ?_
  refine kt_put (v := .ref 40) dX6_init_74 fl_X6_45 (by decide +kernel) (fun _ => rfl) (fun _ => rfl) (Nat.le_of_ble_eq_true rfl) (Nat.le_of_ble_eq_true rfl) ?_
  exact kt_ret dX6_init_77 rfl (fun _ => rfl) rfl rfl
set_option maxRecDepth 20000 in
theorem kc_X2_42 : KCon mX2_init 1 42 2 9 181 fd2 := by
  refine KCon.of (by decide) rfl rfl rfl ?_
  refine kt_aload dX2_init_0 rfl ?_
  refine kt_obj dX2_init_1 ob_X2 mo_obj (by decide) ?_
  refine kt_aload dX2_init_4 rfl ?_
  refine kt_bipush (v := 9) dX2_init_5 (by decide) ?_
  refine kt_newa (atype := .long) (ty := .long) (N := 9) dX2_init_7 rfl (by simp) ar_long rfl ⟨by decide, by decide⟩ (Nat.le_of_ble_eq_true rfl) (Nat.le_of_ble_eq_true rfl) (Nat.le_of_ble_eq_true rfl) ?_
  refine kt_put (v := .ref 43) dX2_init_9 fl_X2_9 (by decide +kernel) (fun _ => rfl) (fun _ => rfl) (Nat.le_of_ble_eq_true rfl) (Nat.le_of_ble_eq_true rfl) ?_
  refine kt_aload dX2_init_12 rfl ?_
  refine kt_bipush (v := 9) dX2_init_13 (by decide) ?_
  refine kt_newa (atype := .int) (ty := .int) (N := 9) dX2_init_15 rfl (by simp) ar_int rfl ⟨by decide, by decide⟩ (Nat.le_of_ble_eq_true rfl) (Nat.le_of_ble_eq_true rfl) (Nat.le_of_ble_eq_true rfl) ?_
  refine kt_put (v := .ref 44) dX2_init_17 fl_X2_15 (by decide +kernel) (fun _ => rfl) (fun _ => rfl) (Nat.le_of_ble_eq_true rfl) (Nat.le_of_ble_eq_true rfl) ?_
  refine kt_aload dX2_init_20 rfl ?_
  refine kt_bipush (v := 9) dX2_init_21 (by decide) ?_
  refine kt_newa (atype := .int) (ty := .int) (N := 9) dX2_init_23 rfl (by simp) ar_int rfl ⟨by decide, by decide⟩ (Nat.le_of_ble_eq_true rfl) (Nat.le_of_ble_eq_true rfl) (Nat.le_of_ble_eq_true rfl) ?_
  refine kt_put (v := .ref 45) dX2_init_25 fl_X2_19 (by decide +kernel) (fun _ => rfl) (fun _ => rfl) (Nat.le_of_ble_eq_true rfl) (Nat.le_of_ble_eq_true rfl) ?_
  refine kt_aload dX2_init_28 rfl ?_
  refine kt_bipush (v := 14) dX2_init_29 (by decide) ?_
  refine kt_newa (atype := .int) (ty := .int) (N := 14) dX2_init_31 rfl (by simp) ar_int rfl ⟨by decide, by decide⟩ (Nat.le_of_ble_eq_true rfl) (Nat.le_of_ble_eq_true rfl) (Nat.le_of_ble_eq_true rfl) ?_
  refine kt_put (v := .ref 46) dX2_init_33 fl_X2_22 (by decide +kernel) (fun _ => rfl) (fun _ => rfl) (Nat.le_of_ble_eq_true rfl) (Nat.le_of_ble_eq_true rfl) ?_
  refine kt_aload dX2_init_36 rfl ?_
  refine kt_bipush (v := 14) dX2_init_37 (by decide) ?_
  refine kt_newa (atype := .int) (ty := .int) (N := 14) dX2_init_39 rfl (by simp) ar_int rfl ⟨by decide, by decide⟩ (Nat.le_of_ble_eq_true rfl) (Nat.le_of_ble_eq_true rfl) (Nat.le_of_ble_eq_true rfl) ?_
  refine kt_put (v := .ref 47) dX2_init_41 fl_X2_25 (by decide +kernel) (fun _ => rfl) (fun _ => rfl) (Nat.le_of_ble_eq_true rfl) (Nat.le_of_ble_eq_true rfl) ?_
  refine kt_aload dX2_init_44 rfl ?_
  refine kt_bipush (v := 14) dX2_init_45 (by decide) ?_
  refine kt_newa (atype := .int) (ty := .int) (N := 14) dX2_init_47 rfl (by simp) ar_int rfl ⟨by decide, by decide⟩ (Nat.le_of_ble_eq_true rfl) (Nat.le_of_ble_eq_true rfl) (Nat.le_of_ble_eq_true rfl) ?_
  refine kt_put (v := .ref 48) dX2_init_49 fl_X2_28 (by decide +kernel) (fun _ => rfl) (fun _ => rfl) (Nat.le_of_ble_eq_true rfl) (Nat.le_of_ble_eq_true rfl) ?_
  refine kt_aload dX2_init_52 rfl ?_
  refine kt_bipush (v := 14) dX2_init_53 (by decide) ?_
  refine kt_newa (atype := .int) (ty := .int) (N := 14) dX2_init_55 rfl (by simp) ar_int rfl ⟨by decide, by decide⟩ (Nat.le_of_ble_eq_true rfl) (Nat.le_of_ble_eq_true rfl) (Nat.le_of_ble_eq_true rfl) ?_
  refine kt_put (v := .ref 49) dX2_init_57 fl_X2_31 (by decide +kernel) (fun _ => rfl) (fun _ => rfl) (Nat.le_of_ble_eq_true rfl) (Nat.le_of_ble_eq_true rfl) ?_
  refine kt_aload dX2_init_60 rfl ?_
  refine kt_bipush (v := 14) dX2_init_61 (by decide) ?_
  refine kt_newa (atype := .int) (ty := .int) (N := 14) dX2_init_63 rfl (by simp) ar_int rfl ⟨by decide, by decide⟩ (Nat.le_of_ble_eq_true rfl) (Nat.le_of_ble_eq_true rfl) (Nat.le_of_ble_eq_true rfl) ?_
  refine kt_put (v := .ref 50) dX2_init_65 fl_X2_34 (by decide +kernel) (fun _ => rfl) (fun _ => rfl) (Nat.le_of_ble_eq_true rfl) (Nat.le_of_ble_eq_true rfl) ?_
  refine kt_aload dX2_init_68 rfl ?_
  refine kt_bipush (v := 84) dX2_init_69 (by decide) ?_
  refine kt_newa (atype := .int) (ty := .int) (N := 84) dX2_init_71 rfl (by simp) ar_int rfl ⟨by decide, by decide⟩ (Nat.le_of_ble_eq_true rfl) (Nat.le_of_ble_eq_true rfl) (Nat.le_of_ble_eq_true rfl) ?_
  refine kt_put (v := .ref 51) dX2_init_73 fl_X2_37 (by decide +kernel) (fun _ => rfl) (fun _ => rfl) (Nat.le_of_ble_eq_true rfl) (Nat.le_of_ble_eq_true rfl) ?_
  exact kt_ret dX2_init_76 rfl (fun _ => rfl) rfl rfl
set_option maxRecDepth 20000 in
theorem kc_X5_52 : KCon mX5_init 1 52 5 5 45 fd5 := by
  refine KCon.of (by decide) rfl rfl rfl ?_
  refine kt_aload dX5_init_0 rfl ?_
  refine kt_obj dX5_init_1 ob_X5 mo_obj (by decide) ?_
  refine kt_aload dX5_init_4 rfl ?_
  refine kt_bipush (v := 9) dX5_init_5 (by decide) ?_
  refine kt_newa (atype := .int) (ty := .int) (N := 9) dX5_init_7 rfl (by simp) ar_int rfl ⟨by decide, by decide⟩ (Nat.le_of_ble_eq_true rfl) (Nat.le_of_ble_eq_true rfl) (Nat.le_of_ble_eq_true rfl) ?_
  refine kt_put (v := .ref 53) dX5_init_9 fl_X5_9 (by decide +kernel) (fun _ => rfl) (fun _ => rfl) (Nat.le_of_ble_eq_true rfl) (Nat.le_of_ble_eq_true rfl) ?_
  refine kt_aload dX5_init_12 rfl ?_
  refine kt_bipush (v := 9) dX5_init_13 (by decide) ?_
  refine kt_newa (atype := .int) (ty := .int) (N := 9) dX5_init_15 rfl (by simp) ar_int rfl ⟨by decide, by decide⟩ (Nat.le_of_ble_eq_true rfl) (Nat.le_of_ble_eq_true rfl) (Nat.le_of_ble_eq_true rfl) ?_
  refine kt_put (v := .ref 54) dX5_init_17 fl_X5_15 (by decide +kernel) (fun _ => rfl) (fun _ => rfl) (Nat.le_of_ble_eq_true rfl) (Nat.le_of_ble_eq_true rfl) ?_
  refine kt_aload dX5_init_20 rfl ?_
  refine kt_bipush (v := 9) dX5_init_21 (by decide) ?_
  refine kt_newa (atype := .int) (ty := .int) (N := 9) dX5_init_23 rfl (by simp) ar_int rfl ⟨by decide, by decide⟩ (Nat.le_of_ble_eq_true rfl) (Nat.le_of_ble_eq_true rfl) (Nat.le_of_ble_eq_true rfl) ?_
  refine kt_put (v := .ref 55) dX5_init_25 fl_X5_18 (by decide +kernel) (fun _ => rfl) (fun _ => rfl) (Nat.le_of_ble_eq_true rfl) (Nat.le_of_ble_eq_true rfl) ?_
  refine kt_aload dX5_init_28 rfl ?_
  refine kt_bipush (v := 9) dX5_init_29 (by decide) ?_
  refine kt_newa (atype := .int) (ty := .int) (N := 9) dX5_init_31 rfl (by simp) ar_int rfl ⟨by decide, by decide⟩ (Nat.le_of_ble_eq_true rfl) (Nat.le_of_ble_eq_true rfl) (Nat.le_of_ble_eq_true rfl) ?_
  refine kt_put (v := .ref 56) dX5_init_33 fl_X5_21 (by decide +kernel) (fun _ => rfl) (fun _ => rfl) (Nat.le_of_ble_eq_true rfl) (Nat.le_of_ble_eq_true rfl) ?_
  refine kt_aload dX5_init_36 rfl ?_
  refine kt_bipush (v := 9) dX5_init_37 (by decide) ?_
  refine kt_newa (atype := .int) (ty := .int) (N := 9) dX5_init_39 rfl (by simp) ar_int rfl ⟨by decide, by decide⟩ (Nat.le_of_ble_eq_true rfl) (Nat.le_of_ble_eq_true rfl) (Nat.le_of_ble_eq_true rfl) ?_
  refine kt_put (v := .ref 57) dX5_init_41 fl_X5_24 (by decide +kernel) (fun _ => rfl) (fun _ => rfl) (Nat.le_of_ble_eq_true rfl) (Nat.le_of_ble_eq_true rfl) ?_
  exact kt_ret dX5_init_44 rfl (fun _ => rfl) rfl rfl
set_option maxRecDepth 20000 in
theorem kc_X4_58 : KCon mX4_init 1 58 4 4 275 fd4 := by
  refine KCon.of (by decide) rfl rfl rfl ?_
  refine kt_aload dX4_init_0 rfl ?_
  refine kt_obj dX4_init_1 ob_X4 mo_obj (by decide) ?_
  refine kt_aload dX4_init_4 rfl ?_
  refine kt_bipush (v := 14) dX4_init_5 (by decide) ?_
  refine kt_newa (atype := .int) (ty := .int) (N := 14) dX4_init_7 rfl (by simp) ar_int rfl ⟨by decide, by decide⟩ (Nat.le_of_ble_eq_true rfl) (Nat.le_of_ble_eq_true rfl) (Nat.le_of_ble_eq_true rfl) ?_
  refine kt_put (v := .ref 59) dX4_init_9 fl_X4_9 (by decide +kernel) (fun _ => rfl) (fun _ => rfl) (Nat.le_of_ble_eq_true rfl) (Nat.le_of_ble_eq_true rfl) ?_
  refine kt_aload dX4_init_12 rfl ?_
  refine kt_bipush (v := 126) dX4_init_13 (by decide) ?_
  refine kt_newa (atype := .int) (ty := .int) (N := 126) dX4_init_15 rfl (by simp) ar_int rfl ⟨by decide, by decide⟩ (Nat.le_of_ble_eq_true rfl) (Nat.le_of_ble_eq_true rfl) (Nat.le_of_ble_eq_true rfl) ?_
  refine kt_put (v := .ref 60) dX4_init_17 fl_X4_15 (by decide +kernel) (fun _ => rfl) (fun _ => rfl) (Nat.le_of_ble_eq_true rfl) (Nat.le_of_ble_eq_true rfl) ?_
  refine kt_aload dX4_init_20 rfl ?_
  refine kt_bipush (v := 126) dX4_init_21 (by decide) ?_
  refine kt_newa (atype := .int) (ty := .int) (N := 126) dX4_init_23 rfl (by simp) ar_int rfl ⟨by decide, by decide⟩ (Nat.le_of_ble_eq_true rfl) (Nat.le_of_ble_eq_true rfl) (Nat.le_of_ble_eq_true rfl) ?_
  refine kt_put (v := .ref 61) dX4_init_25 fl_X4_18 (by decide +kernel) (fun _ => rfl) (fun _ => rfl) (Nat.le_of_ble_eq_true rfl) (Nat.le_of_ble_eq_true rfl) ?_
  refine kt_aload dX4_init_28 rfl ?_
  refine kt_bipush (v := 9) dX4_init_29 (by decide) ?_
  refine kt_newa (atype := .int) (ty := .int) (N := 9) dX4_init_31 rfl (by simp) ar_int rfl ⟨by decide, by decide⟩ (Nat.le_of_ble_eq_true rfl) (Nat.le_of_ble_eq_true rfl) (Nat.le_of_ble_eq_true rfl) ?_
  refine kt_put (v := .ref 62) dX4_init_33 fl_X4_21 (by decide +kernel) (fun _ => rfl) (fun _ => rfl) (Nat.le_of_ble_eq_true rfl) (Nat.le_of_ble_eq_true rfl) ?_
  exact kt_ret dX4_init_36 rfl (fun _ => rfl) rfl rfl
set_option maxRecDepth 20000 in
theorem kc_X6_41 : KCon mX6_init 2 41 6 26 594 fd6 := by
  refine KCon.of (by decide) rfl rfl rfl ?_
  refine kt_aload dX6_init_0 rfl ?_
  refine kt_obj dX6_init_1 ob_X6 mo_obj (by decide) ?_
  refine kt_aload dX6_init_4 rfl ?_
  refine kt_make (M' := mX2_init) (cx := 2) (fx := fd2) dX6_init_5 dX6_init_8 dX6_init_9 cl_X6_9 in_X2.1 in_X2.2.1 (by decide) fd2_d fd2_t (List.mem_of_getElem? (i := 5) rfl) mi_X2 in_X2.2.2.1 in_X2.2.2.2 kc_X2_42 (by decide) (Nat.le_of_ble_eq_true rfl) (Nat.le_of_ble_eq_true rfl) (Nat.le_of_ble_eq_true rfl) rfl ?_
  refine kt_put (v := .ref 42) dX6_init_12 fl_X6_12 (by decide +kernel) (fun _ => rfl) (fun _ => rfl) (Nat.le_of_ble_eq_true rfl) (Nat.le_of_ble_eq_true rfl) ?_
  refine kt_aload dX6_init_15 rfl ?_
  refine kt_make (M' := mX5_init) (cx := 5) (fx := fd5) dX6_init_16 dX6_init_19 dX6_init_20 cl_X6_18 in_X5.1 in_X5.2.1 (by decide) fd5_d fd5_t (List.mem_of_getElem? (i := 6) rfl) mi_X5 in_X5.2.2.1 in_X5.2.2.2 kc_X5_52 (by decide) (Nat.le_of_ble_eq_true rfl) (Nat.le_of_ble_eq_true rfl) (Nat.le_of_ble_eq_true rfl) rfl ?_
  refine kt_put (v := .ref 52) dX6_init_23 fl_X6_21 (by decide +kernel) (fun _ => rfl) (fun _ => rfl) (Nat.le_of_ble_eq_true rfl) (Nat.le_of_ble_eq_true rfl) ?_
  refine kt_aload dX6_init_26 rfl ?_
  refine kt_make (M' := mX4_init) (cx := 4) (fx := fd4) dX6_init_27 dX6_init_30 dX6_init_31 cl_X6_25 in_X4.1 in_X4.2.1 (by decide) fd4_d fd4_t (List.mem_of_getElem? (i := 7) rfl) mi_X4 in_X4.2.2.1 in_X4.2.2.2 kc_X4_58 (by decide) (Nat.le_of_ble_eq_true rfl) (Nat.le_of_ble_eq_true rfl) (Nat.le_of_ble_eq_true rfl) rfl ?_
  refine kt_put (v := .ref 58) dX6_init_34 fl_X6_28 (by decide +kernel) (fun _ => rfl) (fun _ => rfl) (Nat.le_of_ble_eq_true rfl) (Nat.le_of_ble_eq_true rfl) ?_
  refine kt_aload dX6_init_37 rfl ?_
  refine kt_bipush (v := 14) dX6_init_38 (by decide) ?_
  refine kt_newa (atype := .long) (ty := .long) (N := 14) dX6_init_40 rfl (by simp) ar_long rfl ⟨by decide, by decide⟩ (Nat.le_of_ble_eq_true rfl) (Nat.le_of_ble_eq_true rfl) (Nat.le_of_ble_eq_true rfl) ?_
  refine kt_put (v := .ref 63) dX6_init_42 fl_X6_32 (by decide +kernel) (fun _ => rfl) (fun _ => rfl) (Nat.le_of_ble_eq_true rfl) (Nat.le_of_ble_eq_true rfl) ?_
  refine kt_aload dX6_init_45 rfl ?_
  refine kt_bipush (v := 9) dX6_init_46 (by decide) ?_
  refine kt_newa (atype := .long) (ty := .long) (N := 9) dX6_init_48 rfl (by simp) ar_long rfl ⟨by decide, by decide⟩ (Nat.le_of_ble_eq_true rfl) (Nat.le_of_ble_eq_true rfl) (Nat.le_of_ble_eq_true rfl) ?_
  refine kt_put (v := .ref 64) dX6_init_50 fl_X6_36 (by decide +kernel) (fun _ => rfl) (fun _ => rfl) (Nat.le_of_ble_eq_true rfl) (Nat.le_of_ble_eq_true rfl) ?_
  refine kt_aload dX6_init_53 rfl ?_
  refine kt_bipush (v := 9) dX6_init_54 (by decide) ?_
  refine kt_newa (atype := .long) (ty := .long) (N := 9) dX6_init_56 rfl (by simp) ar_long rfl ⟨by decide, by decide⟩ (Nat.le_of_ble_eq_true rfl) (Nat.le_of_ble_eq_true rfl) (Nat.le_of_ble_eq_true rfl) ?_
  refine kt_put (v := .ref 65) dX6_init_58 fl_X6_39 (by decide +kernel) (fun _ => rfl) (fun _ => rfl) (Nat.le_of_ble_eq_true rfl) (Nat.le_of_ble_eq_true rfl) ?_
  refine kt_aload dX6_init_61 rfl ?_
  refine kt_bipush (v := 14) dX6_init_62 (by decide) ?_
  refine kt_newa (atype := .long) (ty := .long) (N := 14) dX6_init_64 rfl (by simp) ar_long rfl ⟨by decide, by decide⟩ (Nat.le_of_ble_eq_true rfl) (Nat.le_of_ble_eq_true rfl) (Nat.le_of_ble_eq_true rfl) ?_
  refine kt_put (v := .ref 66) dX6_init_66 fl_X6_42 (by decide +kernel) (fun _ => rfl) (fun _ => rfl) (Nat.le_of_ble_eq_true rfl) (Nat.le_of_ble_eq_true rfl) ?_
  refine kt_aload dX6_init_69 rfl ?_
  refine kt_bipush (v := 21) dX6_init_70 (by decide) ?_
  refine kt_newa (atype := .int) (ty := .int) (N := 21) dX6_init_72 rfl (by simp) ar_int rfl ⟨by decide, by decide⟩ (Nat.le_of_ble_eq_true rfl) (Nat.le_of_ble_eq_true rfl) (Nat.le_of_ble_eq_true rfl) ?_
  refine kt_put (v := .ref 67) dX6_init_74 fl_X6_45 (by decide +kernel) (fun _ => rfl) (fun _ => rfl) (Nat.le_of_ble_eq_true rfl) (Nat.le_of_ble_eq_true rfl) ?_
  exact kt_ret dX6_init_77 rfl (fun _ => rfl) rfl rfl
set_option maxRecDepth 20000 in
theorem kc_X0_68 : KCon mX0_init 1 68 0 3 36 fd0 := by
  refine KCon.of (by decide) rfl rfl rfl ?_
  refine kt_aload dX0_init_0 rfl ?_
  refine kt_obj dX0_init_1 ob_X0 mo_obj (by decide) ?_
  refine kt_aload dX0_init_4 rfl ?_
  refine kt_bipush (v := 12) dX0_init_5 (by decide) ?_
  refine kt_newa (atype := .int) (ty := .int) (N := 12) dX0_init_7 rfl (by simp) ar_int rfl ⟨by decide, by decide⟩ (Nat.le_of_ble_eq_true rfl) (Nat.le_of_ble_eq_true rfl) (Nat.le_of_ble_eq_true rfl) ?_
  refine kt_put (v := .ref 69) dX0_init_9 fl_X0_9 (by decide +kernel) (fun _ => rfl) (fun _ => rfl) (Nat.le_of_ble_eq_true rfl) (Nat.le_of_ble_eq_true rfl) ?_
  refine kt_aload dX0_init_12 rfl ?_
  refine kt_bipush (v := 12) dX0_init_13 (by decide) ?_
  refine kt_newa (atype := .int) (ty := .int) (N := 12) dX0_init_15 rfl (by simp) ar_int rfl ⟨by decide, by decide⟩ (Nat.le_of_ble_eq_true rfl) (Nat.le_of_ble_eq_true rfl) (Nat.le_of_ble_eq_true rfl) ?_
  refine kt_put (v := .ref 70) dX0_init_17 fl_X0_15 (by decide +kernel) (fun _ => rfl) (fun _ => rfl) (Nat.le_of_ble_eq_true rfl) (Nat.le_of_ble_eq_true rfl) ?_
  refine kt_aload dX0_init_20 rfl ?_
  refine kt_bipush (v := 12) dX0_init_21 (by decide) ?_
  refine kt_newa (atype := .int) (ty := .int) (N := 12) dX0_init_23 rfl (by simp) ar_int rfl ⟨by decide, by decide⟩ (Nat.le_of_ble_eq_true rfl) (Nat.le_of_ble_eq_true rfl) (Nat.le_of_ble_eq_true rfl) ?_
  refine kt_put (v := .ref 71) dX0_init_25 fl_X0_18 (by decide +kernel) (fun _ => rfl) (fun _ => rfl) (Nat.le_of_ble_eq_true rfl) (Nat.le_of_ble_eq_true rfl) ?_
  exact kt_ret dX0_init_28 rfl (fun _ => rfl) rfl rfl
set_option maxRecDepth 20000 in
theorem kc_X1_72 : KCon mX1_init 1 72 1 1 9 fd1 := by
  refine KCon.of (by decide) rfl rfl rfl ?_
  refine kt_aload dX1_init_0 rfl ?_
  refine kt_obj dX1_init_1 ob_X1 mo_obj (by decide) ?_
  refine kt_aload dX1_init_4 rfl ?_
  refine kt_bipush (v := 9) dX1_init_5 (by decide) ?_
  refine kt_newa (atype := .int) (ty := .int) (N := 9) dX1_init_7 rfl (by simp) ar_int rfl ⟨by decide, by decide⟩ (Nat.le_of_ble_eq_true rfl) (Nat.le_of_ble_eq_true rfl) (Nat.le_of_ble_eq_true rfl) ?_
  refine kt_put (v := .ref 73) dX1_init_9 fl_X1_9 (by decide +kernel) (fun _ => rfl) (fun _ => rfl) (Nat.le_of_ble_eq_true rfl) (Nat.le_of_ble_eq_true rfl) ?_
  exact kt_ret dX1_init_12 rfl (fun _ => rfl) rfl rfl
set_option maxRecDepth 20000 in
theorem kc_X7_0 : KCon mX7_init 3 0 7 73 2075 fd7 := by
  refine KCon.of (by decide) rfl rfl rfl ?_
  refine kt_aload dX7_init_0 rfl ?_
  refine kt_obj dX7_init_1 ob_X7 mo_obj (by decide) ?_
  refine kt_aload dX7_init_4 rfl ?_
  refine kt_sipush (v := 600) dX7_init_5 (by decide) ?_
  refine kt_newa (atype := .byte) (ty := .byte) (N := 600) dX7_init_8 rfl (by simp) ar_byte rfl ⟨by decide, by decide⟩ (Nat.le_of_ble_eq_true rfl) (Nat.le_of_ble_eq_true rfl) (Nat.le_of_ble_eq_true rfl) ?_
  refine kt_put (v := .ref 1) dX7_init_10 fl_X7_11 (by decide +kernel) (fun _ => rfl) (fun _ => rfl) (Nat.le_of_ble_eq_true rfl) (Nat.le_of_ble_eq_true rfl) ?_
  refine kt_aload dX7_init_13 rfl ?_
  refine kt_iconst (v := -1) dX7_init_14 (by decide) ?_
  refine kt_put (v := .int (-1)) dX7_init_15 fl_X7_15 (by decide +kernel) (fun _ => rfl) (fun _ => rfl) (Nat.le_of_ble_eq_true rfl) (Nat.le_of_ble_eq_true rfl) ?_
  refine kt_aload dX7_init_18 rfl ?_
  refine kt_make (M' := mX3_init) (cx := 3) (fx := fd3) dX7_init_19 dX7_init_22 dX7_init_23 cl_X7_19 in_X3.1 in_X3.2.1 (by decide) fd3_d fd3_t (List.mem_of_getElem? (i := 0) rfl) mi_X3 in_X3.2.2.1 in_X3.2.2.2 kc_X3_2 (by decide) (Nat.le_of_ble_eq_true rfl) (Nat.le_of_ble_eq_true rfl) (Nat.le_of_ble_eq_true rfl) rfl ?_
  refine kt_put (v := .ref 2) dX7_init_26 fl_X7_22 (by decide +kernel) (fun _ => rfl) (fun _ => rfl) (Nat.le_of_ble_eq_true rfl) (Nat.le_of_ble_eq_true rfl) ?_
  refine kt_aload dX7_init_29 rfl ?_
  refine kt_make (M' := mX6_init) (cx := 6) (fx := fd6) dX7_init_30 dX7_init_33 dX7_init_34 cl_X7_26 in_X6.1 in_X6.2.1 (by decide) fd6_d fd6_t (List.mem_of_getElem? (i := 1) rfl) mi_X6 in_X6.2.2.1 in_X6.2.2.2 kc_X6_14 (by decide) (Nat.le_of_ble_eq_true rfl) (Nat.le_of_ble_eq_true rfl) (Nat.le_of_ble_eq_true rfl) rfl ?_
  refine kt_put (v := .ref 14) dX7_init_37 fl_X7_29 (by decide +kernel) (fun _ => rfl) (fun _ => rfl) (Nat.le_of_ble_eq_true rfl) (Nat.le_of_ble_eq_true rfl) ?_
  refine kt_aload dX7_init_40 rfl ?_
  refine kt_aload dX7_init_41 rfl ?_
  refine kt_getT (v := .ref 14) dX7_init_42 fl_X7_29 rfl ?_
  refine kt_getC (v := .ref 15) (cx := 6) dX7_init_45 fl_X7_33 ⟨Nat.le_of_ble_eq_true rfl, Nat.le_of_ble_eq_true rfl⟩ rfl rfl ?_
  refine kt_put (v := .ref 15) dX7_init_48 fl_X7_37 (by decide +kernel) (fun _ => rfl) (fun _ => rfl) (Nat.le_of_ble_eq_true rfl) (Nat.le_of_ble_eq_true rfl) ?_
  refine kt_aload dX7_init_51 rfl ?_
  refine kt_make (M' := mX6_init) (cx := 6) (fx := fd6) dX7_init_52 dX7_init_55 dX7_init_56 cl_X7_26 in_X6.1 in_X6.2.1 (by decide) fd6_d fd6_t (List.mem_of_getElem? (i := 1) rfl) mi_X6 in_X6.2.2.1 in_X6.2.2.2 kc_X6_41 (by decide) (Nat.le_of_ble_eq_true rfl) (Nat.le_of_ble_eq_true rfl) (Nat.le_of_ble_eq_true rfl) rfl ?_
  refine kt_put (v := .ref 41) dX7_init_59 fl_X7_38 (by decide +kernel) (fun _ => rfl) (fun _ => rfl) (Nat.le_of_ble_eq_true rfl) (Nat.le_of_ble_eq_true rfl) ?_
  refine kt_aload dX7_init_62 rfl ?_
  refine kt_aload dX7_init_63 rfl ?_
  refine kt_getT (v := .ref 41) dX7_init_64 fl_X7_38 rfl ?_
  refine kt_getC (v := .ref 42) (cx := 6) dX7_init_67 fl_X7_33 ⟨Nat.le_of_ble_eq_true rfl, Nat.le_of_ble_eq_true rfl⟩ rfl rfl ?_
  refine kt_put (v := .ref 42) dX7_init_70 fl_X7_41 (by decide +kernel) (fun _ => rfl) (fun _ => rfl) (Nat.le_of_ble_eq_true rfl) (Nat.le_of_ble_eq_true rfl) ?_
  refine kt_aload dX7_init_73 rfl ?_
  refine kt_make (M' := mX0_init) (cx := 0) (fx := fd0) dX7_init_74 dX7_init_77 dX7_init_78 cl_X7_44 in_X0.1 in_X0.2.1 (by decide) fd0_d fd0_t (List.mem_of_getElem? (i := 2) rfl) mi_X0 in_X0.2.2.1 in_X0.2.2.2 kc_X0_68 (by decide) (Nat.le_of_ble_eq_true rfl) (Nat.le_of_ble_eq_true rfl) (Nat.le_of_ble_eq_true rfl) rfl ?_
  refine kt_put (v := .ref 68) dX7_init_81 fl_X7_47 (by decide +kernel) (fun _ => rfl) (fun _ => rfl) (Nat.le_of_ble_eq_true rfl) (Nat.le_of_ble_eq_true rfl) ?_
  refine kt_aload dX7_init_84 rfl ?_
  refine kt_make (M' := mX1_init) (cx := 1) (fx := fd1) dX7_init_85 dX7_init_88 dX7_init_89 cl_X7_51 in_X1.1 in_X1.2.1 (by decide) fd1_d fd1_t (List.mem_of_getElem? (i := 3) rfl) mi_X1 in_X1.2.2.1 in_X1.2.2.2 kc_X1_72 (by decide) (Nat.le_of_ble_eq_true rfl) (Nat.le_of_ble_eq_true rfl) (Nat.le_of_ble_eq_true rfl) rfl ?_
  refine kt_put (v := .ref 72) dX7_init_92 fl_X7_54 (by decide +kernel) (fun _ => rfl) (fun _ => rfl) (Nat.le_of_ble_eq_true rfl) (Nat.le_of_ble_eq_true rfl) ?_
  exact kt_ret dX7_init_95 rfl (fun _ => rfl) rfl rfl
set_option maxRecDepth 20000 in
theorem kc_X8_74 : KCon mX8_init 1 74 8 24 1823 fd8 := by
  refine KCon.of (by decide) rfl rfl rfl ?_
  refine kt_aload dX8_init_0 rfl ?_
  refine kt_obj dX8_init_1 ob_X8 mo_obj (by decide) ?_
  refine kt_aload dX8_init_4 rfl ?_
  refine kt_iconst (v := -1) dX8_init_5 (by decide) ?_
  refine kt_put (v := .int (-1)) dX8_init_6 fl_X8_11 (by decide +kernel) (fun _ => rfl) (fun _ => rfl) (Nat.le_of_ble_eq_true rfl) (Nat.le_of_ble_eq_true rfl) ?_
  refine kt_aload dX8_init_9 rfl ?_
  refine kt_sipush (v := 600) dX8_init_10 (by decide) ?_
  refine kt_newa (atype := .int) (ty := .int) (N := 600) dX8_init_13 rfl (by simp) ar_int rfl ⟨by decide, by decide⟩ (Nat.le_of_ble_eq_true rfl) (Nat.le_of_ble_eq_true rfl) (Nat.le_of_ble_eq_true rfl) ?_
  refine kt_put (v := .ref 75) dX8_init_15 fl_X8_15 (by decide +kernel) (fun _ => rfl) (fun _ => rfl) (Nat.le_of_ble_eq_true rfl) (Nat.le_of_ble_eq_true rfl) ?_
  refine kt_aload dX8_init_18 rfl ?_
  refine kt_bipush (v := 18) dX8_init_19 (by decide) ?_
  refine kt_newa (atype := .int) (ty := .int) (N := 18) dX8_init_21 rfl (by simp) ar_int rfl ⟨by decide, by decide⟩ (Nat.le_of_ble_eq_true rfl) (Nat.le_of_ble_eq_true rfl) (Nat.le_of_ble_eq_true rfl) ?_
  refine kt_put (v := .ref 76) dX8_init_23 fl_X8_19 (by decide +kernel) (fun _ => rfl) (fun _ => rfl) (Nat.le_of_ble_eq_true rfl) (Nat.le_of_ble_eq_true rfl) ?_
  refine kt_aload dX8_init_26 rfl ?_
  refine kt_bipush (v := 18) dX8_init_27 (by decide) ?_
  refine kt_newa (atype := .int) (ty := .int) (N := 18) dX8_init_29 rfl (by simp) ar_int rfl ⟨by decide, by decide⟩ (Nat.le_of_ble_eq_true rfl) (Nat.le_of_ble_eq_true rfl) (Nat.le_of_ble_eq_true rfl) ?_
  refine kt_put (v := .ref 77) dX8_init_31 fl_X8_22 (by decide +kernel) (fun _ => rfl) (fun _ => rfl) (Nat.le_of_ble_eq_true rfl) (Nat.le_of_ble_eq_true rfl) ?_
  refine kt_aload dX8_init_34 rfl ?_
  refine kt_bipush (v := 108) dX8_init_35 (by decide) ?_
  refine kt_newa (atype := .int) (ty := .int) (N := 108) dX8_init_37 rfl (by simp) ar_int rfl ⟨by decide, by decide⟩ (Nat.le_of_ble_eq_true rfl) (Nat.le_of_ble_eq_true rfl) (Nat.le_of_ble_eq_true rfl) ?_
  refine kt_put (v := .ref 78) dX8_init_39 fl_X8_25 (by decide +kernel) (fun _ => rfl) (fun _ => rfl) (Nat.le_of_ble_eq_true rfl) (Nat.le_of_ble_eq_true rfl) ?_
  refine kt_aload dX8_init_42 rfl ?_
  refine kt_bipush (v := 28) dX8_init_43 (by decide) ?_
  refine kt_newa (atype := .int) (ty := .int) (N := 28) dX8_init_45 rfl (by simp) ar_int rfl ⟨by decide, by decide⟩ (Nat.le_of_ble_eq_true rfl) (Nat.le_of_ble_eq_true rfl) (Nat.le_of_ble_eq_true rfl) ?_
  refine kt_put (v := .ref 79) dX8_init_47 fl_X8_28 (by decide +kernel) (fun _ => rfl) (fun _ => rfl) (Nat.le_of_ble_eq_true rfl) (Nat.le_of_ble_eq_true rfl) ?_
  refine kt_aload dX8_init_50 rfl ?_
  refine kt_bipush (v := 28) dX8_init_51 (by decide) ?_
  refine kt_newa (atype := .int) (ty := .int) (N := 28) dX8_init_53 rfl (by simp) ar_int rfl ⟨by decide, by decide⟩ (Nat.le_of_ble_eq_true rfl) (Nat.le_of_ble_eq_true rfl) (Nat.le_of_ble_eq_true rfl) ?_
  refine kt_put (v := .ref 80) dX8_init_55 fl_X8_31 (by decide +kernel) (fun _ => rfl) (fun _ => rfl) (Nat.le_of_ble_eq_true rfl) (Nat.le_of_ble_eq_true rfl) ?_
  refine kt_aload dX8_init_58 rfl ?_
  refine kt_bipush (v := 28) dX8_init_59 (by decide) ?_
  refine kt_newa (atype := .int) (ty := .int) (N := 28) dX8_init_61 rfl (by simp) ar_int rfl ⟨by decide, by decide⟩ (Nat.le_of_ble_eq_true rfl) (Nat.le_of_ble_eq_true rfl) (Nat.le_of_ble_eq_true rfl) ?_
  refine kt_put (v := .ref 81) dX8_init_63 fl_X8_34 (by decide +kernel) (fun _ => rfl) (fun _ => rfl) (Nat.le_of_ble_eq_true rfl) (Nat.le_of_ble_eq_true rfl) ?_
  refine kt_aload dX8_init_66 rfl ?_
  refine kt_bipush (v := 28) dX8_init_67 (by decide) ?_
  refine kt_newa (atype := .int) (ty := .int) (N := 28) dX8_init_69 rfl (by simp) ar_int rfl ⟨by decide, by decide⟩ (Nat.le_of_ble_eq_true rfl) (Nat.le_of_ble_eq_true rfl) (Nat.le_of_ble_eq_true rfl) ?_
  refine kt_put (v := .ref 82) dX8_init_71 fl_X8_37 (by decide +kernel) (fun _ => rfl) (fun _ => rfl) (Nat.le_of_ble_eq_true rfl) (Nat.le_of_ble_eq_true rfl) ?_
  refine kt_aload dX8_init_74 rfl ?_
  refine kt_sipush (v := 168) dX8_init_75 (by decide) ?_
  refine kt_newa (atype := .int) (ty := .int) (N := 168) dX8_init_78 rfl (by simp) ar_int rfl ⟨by decide, by decide⟩ (Nat.le_of_ble_eq_true rfl) (Nat.le_of_ble_eq_true rfl) (Nat.le_of_ble_eq_true rfl) ?_
  refine kt_put (v := .ref 83) dX8_init_80 fl_X8_40 (by decide +kernel) (fun _ => rfl) (fun _ => rfl) (Nat.le_of_ble_eq_true rfl) (Nat.le_of_ble_eq_true rfl) ?_
  refine kt_aload dX8_init_83 rfl ?_
  refine kt_bipush (v := 28) dX8_init_84 (by decide) ?_
  refine kt_newa (atype := .int) (ty := .int) (N := 28) dX8_init_86 rfl (by simp) ar_int rfl ⟨by decide, by decide⟩ (Nat.le_of_ble_eq_true rfl) (Nat.le_of_ble_eq_true rfl) (Nat.le_of_ble_eq_true rfl) ?_
  refine kt_put (v := .ref 84) dX8_init_88 fl_X8_43 (by decide +kernel) (fun _ => rfl) (fun _ => rfl) (Nat.le_of_ble_eq_true rfl) (Nat.le_of_ble_eq_true rfl) ?_
  refine kt_aload dX8_init_91 rfl ?_
  refine kt_bipush (v := 9) dX8_init_92 (by decide) ?_
  refine kt_newa (atype := .int) (ty := .int) (N := 9) dX8_init_94 rfl (by simp) ar_int rfl ⟨by decide, by decide⟩ (Nat.le_of_ble_eq_true rfl) (Nat.le_of_ble_eq_true rfl) (Nat.le_of_ble_eq_true rfl) ?_
  refine kt_put (v := .ref 85) dX8_init_96 fl_X8_46 (by decide +kernel) (fun _ => rfl) (fun _ => rfl) (Nat.le_of_ble_eq_true rfl) (Nat.le_of_ble_eq_true rfl) ?_
  refine kt_aload dX8_init_99 rfl ?_
  refine kt_bipush (v := 9) dX8_init_100 (by decide) ?_
  refine kt_newa (atype := .int) (ty := .int) (N := 9) dX8_init_102 rfl (by simp) ar_int rfl ⟨by decide, by decide⟩ (Nat.le_of_ble_eq_true rfl) (Nat.le_of_ble_eq_true rfl) (Nat.le_of_ble_eq_true rfl) ?_
  refine kt_put (v := .ref 86) dX8_init_104 fl_X8_49 (by decide +kernel) (fun _ => rfl) (fun _ => rfl) (Nat.le_of_ble_eq_true rfl) (Nat.le_of_ble_eq_true rfl) ?_
  refine kt_aload dX8_init_107 rfl ?_
  refine kt_bipush (v := 14) dX8_init_108 (by decide) ?_
  refine kt_newa (atype := .long) (ty := .long) (N := 14) dX8_init_110 rfl (by simp) ar_long rfl ⟨by decide, by decide⟩ (Nat.le_of_ble_eq_true rfl) (Nat.le_of_ble_eq_true rfl) (Nat.le_of_ble_eq_true rfl) ?_
  refine kt_put (v := .ref 87) dX8_init_112 fl_X8_52 (by decide +kernel) (fun _ => rfl) (fun _ => rfl) (Nat.le_of_ble_eq_true rfl) (Nat.le_of_ble_eq_true rfl) ?_
  refine kt_aload dX8_init_115 rfl ?_
  refine kt_sipush (v := 196) dX8_init_116 (by decide) ?_
  refine kt_newa (atype := .int) (ty := .int) (N := 196) dX8_init_119 rfl (by simp) ar_int rfl ⟨by decide, by decide⟩ (Nat.le_of_ble_eq_true rfl) (Nat.le_of_ble_eq_true rfl) (Nat.le_of_ble_eq_true rfl) ?_
  refine kt_put (v := .ref 88) dX8_init_121 fl_X8_56 (by decide +kernel) (fun _ => rfl) (fun _ => rfl) (Nat.le_of_ble_eq_true rfl) (Nat.le_of_ble_eq_true rfl) ?_
  refine kt_aload dX8_init_124 rfl ?_
  refine kt_sipush (v := 196) dX8_init_125 (by decide) ?_
  refine kt_newa (atype := .int) (ty := .int) (N := 196) dX8_init_128 rfl (by simp) ar_int rfl ⟨by decide, by decide⟩ (Nat.le_of_ble_eq_true rfl) (Nat.le_of_ble_eq_true rfl) (Nat.le_of_ble_eq_true rfl) ?_
  refine kt_put (v := .ref 89) dX8_init_130 fl_X8_59 (by decide +kernel) (fun _ => rfl) (fun _ => rfl) (Nat.le_of_ble_eq_true rfl) (Nat.le_of_ble_eq_true rfl) ?_
  refine kt_aload dX8_init_133 rfl ?_
  refine kt_bipush (v := 14) dX8_init_134 (by decide) ?_
  refine kt_newa (atype := .int) (ty := .int) (N := 14) dX8_init_136 rfl (by simp) ar_int rfl ⟨by decide, by decide⟩ (Nat.le_of_ble_eq_true rfl) (Nat.le_of_ble_eq_true rfl) (Nat.le_of_ble_eq_true rfl) ?_
  refine kt_put (v := .ref 90) dX8_init_138 fl_X8_62 (by decide +kernel) (fun _ => rfl) (fun _ => rfl) (Nat.le_of_ble_eq_true rfl) (Nat.le_of_ble_eq_true rfl) ?_
  refine kt_aload dX8_init_141 rfl ?_
  refine kt_bipush (v := 9) dX8_init_142 (by decide) ?_
  refine kt_newa (atype := .long) (ty := .long) (N := 9) dX8_init_144 rfl (by simp) ar_long rfl ⟨by decide, by decide⟩ (Nat.le_of_ble_eq_true rfl) (Nat.le_of_ble_eq_true rfl) (Nat.le_of_ble_eq_true rfl) ?_
  refine kt_put (v := .ref 91) dX8_init_146 fl_X8_65 (by decide +kernel) (fun _ => rfl) (fun _ => rfl) (Nat.le_of_ble_eq_true rfl) (Nat.le_of_ble_eq_true rfl) ?_
  refine kt_aload dX8_init_149 rfl ?_
  refine kt_bipush (v := 9) dX8_init_150 (by decide) ?_
  refine kt_newa (atype := .int) (ty := .int) (N := 9) dX8_init_152 rfl (by simp) ar_int rfl ⟨by decide, by decide⟩ (Nat.le_of_ble_eq_true rfl) (Nat.le_of_ble_eq_true rfl) (Nat.le_of_ble_eq_true rfl) ?_
  refine kt_put (v := .ref 92) dX8_init_154 fl_X8_68 (by decide +kernel) (fun _ => rfl) (fun _ => rfl) (Nat.le_of_ble_eq_true rfl) (Nat.le_of_ble_eq_true rfl) ?_
  refine kt_aload dX8_init_157 rfl ?_
  refine kt_bipush (v := 9) dX8_init_158 (by decide) ?_
  refine kt_newa (atype := .long) (ty := .long) (N := 9) dX8_init_160 rfl (by simp) ar_long rfl ⟨by decide, by decide⟩ (Nat.le_of_ble_eq_true rfl) (Nat.le_of_ble_eq_true rfl) (Nat.le_of_ble_eq_true rfl) ?_
  refine kt_put (v := .ref 93) dX8_init_162 fl_X8_71 (by decide +kernel) (fun _ => rfl) (fun _ => rfl) (Nat.le_of_ble_eq_true rfl) (Nat.le_of_ble_eq_true rfl) ?_
  refine kt_aload dX8_init_165 rfl ?_
  refine kt_iconst (v := -1) dX8_init_166 (by decide) ?_
  refine kt_put (v := .int (-1)) dX8_init_167 fl_X8_74 (by decide +kernel) (fun _ => rfl) (fun _ => rfl) (Nat.le_of_ble_eq_true rfl) (Nat.le_of_ble_eq_true rfl) ?_
  refine kt_aload dX8_init_170 rfl ?_
  refine kt_bipush (v := 100) dX8_init_171 (by decide) ?_
  refine kt_put (v := .int 100) dX8_init_173 fl_X8_77 (by decide +kernel) (fun _ => rfl) (fun _ => rfl) (Nat.le_of_ble_eq_true rfl) (Nat.le_of_ble_eq_true rfl) ?_
  refine kt_aload dX8_init_176 rfl ?_
  refine kt_bipush (v := 9) dX8_init_177 (by decide) ?_
  refine kt_newa (atype := .boolean) (ty := .boolean) (N := 9) dX8_init_179 rfl (by simp) ar_boolean rfl ⟨by decide, by decide⟩ (Nat.le_of_ble_eq_true rfl) (Nat.le_of_ble_eq_true rfl) (Nat.le_of_ble_eq_true rfl) ?_
  refine kt_put (v := .ref 94) dX8_init_181 fl_X8_80 (by decide +kernel) (fun _ => rfl) (fun _ => rfl) (Nat.le_of_ble_eq_true rfl) (Nat.le_of_ble_eq_true rfl) ?_
  refine kt_aload dX8_init_184 rfl ?_
  refine kt_bipush (v := 9) dX8_init_185 (by decide) ?_
  refine kt_newa (atype := .int) (ty := .int) (N := 9) dX8_init_187 rfl (by simp) ar_int rfl ⟨by decide, by decide⟩ (Nat.le_of_ble_eq_true rfl) (Nat.le_of_ble_eq_true rfl) (Nat.le_of_ble_eq_true rfl) ?_
  refine kt_put (v := .ref 95) dX8_init_189 fl_X8_84 (by decide +kernel) (fun _ => rfl) (fun _ => rfl) (Nat.le_of_ble_eq_true rfl) (Nat.le_of_ble_eq_true rfl) ?_
  refine kt_aload dX8_init_192 rfl ?_
  refine kt_bipush (v := 108) dX8_init_193 (by decide) ?_
  refine kt_newa (atype := .int) (ty := .int) (N := 108) dX8_init_195 rfl (by simp) ar_int rfl ⟨by decide, by decide⟩ (Nat.le_of_ble_eq_true rfl) (Nat.le_of_ble_eq_true rfl) (Nat.le_of_ble_eq_true rfl) ?_
  refine kt_put (v := .ref 96) dX8_init_197 fl_X8_87 (by decide +kernel) (fun _ => rfl) (fun _ => rfl) (Nat.le_of_ble_eq_true rfl) (Nat.le_of_ble_eq_true rfl) ?_
  refine kt_aload dX8_init_200 rfl ?_
  refine kt_sipush (v := 168) dX8_init_201 (by decide) ?_
  refine kt_newa (atype := .int) (ty := .int) (N := 168) dX8_init_204 rfl (by simp) ar_int rfl ⟨by decide, by decide⟩ (Nat.le_of_ble_eq_true rfl) (Nat.le_of_ble_eq_true rfl) (Nat.le_of_ble_eq_true rfl) ?_
  refine kt_put (v := .ref 97) dX8_init_206 fl_X8_90 (by decide +kernel) (fun _ => rfl) (fun _ => rfl) (Nat.le_of_ble_eq_true rfl) (Nat.le_of_ble_eq_true rfl) ?_
  refine kt_aload dX8_init_209 rfl ?_
  refine kt_bipush (v := 12) dX8_init_210 (by decide) ?_
  refine kt_newa (atype := .int) (ty := .int) (N := 12) dX8_init_212 rfl (by simp) ar_int rfl ⟨by decide, by decide⟩ (Nat.le_of_ble_eq_true rfl) (Nat.le_of_ble_eq_true rfl) (Nat.le_of_ble_eq_true rfl) ?_
  refine kt_put (v := .ref 98) dX8_init_214 fl_X8_93 (by decide +kernel) (fun _ => rfl) (fun _ => rfl) (Nat.le_of_ble_eq_true rfl) (Nat.le_of_ble_eq_true rfl) ?_
  exact kt_ret dX8_init_217 rfl (fun _ => rfl) rfl rfl
