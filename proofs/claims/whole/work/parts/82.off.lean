/-! ===== both: how far off; off ===== -/
theorem MeaM.fm {h h' : PH} {ms : MES} (m : MeaM h ms) (f : FM slS slG h h') : MeaM h' ms := by
  have g : ∀ y, 93 < y → h'.1 y = h.1 y := fun y hy => (f.2.1 y (by omega) (fun q => by unfold slS at q; omega)).1
  unfold MeaM; rw [g 94 (by omega), g 95 (by omega)]; exact m
def hdN (t : NT) : FL := hdS (snOf t) (solveS (snOf t)).1
def mtN (t : NT) (j : Nat) : Bool := (trS (snOf t) (solveS (snOf t)).1).2.2.2 j
theorem off_n {t : NT} {ms : MES} {m j : Nat} {a : Int64} (h : ms j = none) : offT t ms (m + 1) j a = offT t ms m (j + 1) a := by
  show offT t ms m (j + 1) (match ms j with | none => a | some v => a + (if (trS (snOf t) (solveS (snOf t)).1).2.2.2 j = true then abS (hdS (snOf t) (solveS (snOf t)).1 j - v.toInt64) else 1000000)) = _
  rw [h]
theorem off_m {t : NT} {ms : MES} {m j : Nat} {a : Int64} {v : Int32} (h : ms j = some v) (hm : mtN t j = true) : offT t ms (m + 1) j a = offT t ms m (j + 1) (a + abS (hdN t j - v.toInt64)) := by
  show offT t ms m (j + 1) (match ms j with | none => a | some v => a + (if (trS (snOf t) (solveS (snOf t)).1).2.2.2 j = true then abS (hdS (snOf t) (solveS (snOf t)).1 j - v.toInt64) else 1000000)) = _
  rw [h]
  show offT t ms m (j + 1) (a + (if mtN t j = true then abS (hdN t j - v.toInt64) else 1000000)) = _
  rw [if_pos hm]
theorem off_d {t : NT} {ms : MES} {m j : Nat} {a : Int64} {v : Int32} (h : ms j = some v) (hm : ¬ mtN t j = true) : offT t ms (m + 1) j a = offT t ms m (j + 1) (a + 1000000) := by
  show offT t ms m (j + 1) (match ms j with | none => a | some v => a + (if (trS (snOf t) (solveS (snOf t)).1).2.2.2 j = true then abS (hdS (snOf t) (solveS (snOf t)).1 j - v.toInt64) else 1000000)) = _
  rw [h]
  show offT t ms m (j + 1) (a + (if mtN t j = true then abS (hdN t j - v.toInt64) else 1000000)) = _
  rw [if_neg hm]
set_option maxRecDepth 100000 in
set_option maxHeartbeats 4000000 in
theorem far_loop {t : NT} (ok : okT t) {ms : MES} (mok : ∀ j v, ms j = some v → j < NT.J t) {h : PH} (sc : SolC h 41 t (solveS (snOf t))) (mb : ∀ j, j < 32 → bt (h.1 72 0) j = (ms j).isSome) (mv : ∀ j v, ms j = some v → h.1 73 j = v) : ∀ (m j : Nat) (acc : Int64), j + m = 9 → RT mX1_farFrom 2 5 [some (.ref 72), some (.ref 41), some (.long acc), none, some (.int (nI j)), none] [] h (fun a h' => a = some (.long (offT t ms (NT.J t - j) j acc)) ∧ h' = h) := by
  have hJ9 := ok.2.1
  have tm : ∀ i, i < 32 → bt (h.1 52 0) i = mtN t i := sc.2.2.2.2.2.1.1
  have hh := hd_at ok _ sc.2.2.2.2.2.2.2.2
  intro m
  induction m with
  | zero =>
    intro j acc hj
    rw [show NT.J t - j = 0 by omega]
    refine r_iload_4 dX1_farFrom_5 ?_
    refine r_bipush (v := nI 9) dX1_farFrom_7 (by decide) ?_
    refine r_icmpN_ge 86 dX1_farFrom_9 (by decide) (by omega) (by omega) (fun c_9 => ?_) (fun c_9 => by omega)
    refine r_lload_2 dX1_farFrom_86 ?_
    refine r_lret dX1_farFrom_87 rfl ?_
    exact ⟨rfl, rfl⟩
  | succ m ih =>
    intro j acc hj
    cases hs : ms j with
    | none =>
      have e : offT t ms (NT.J t - j) j acc = offT t ms (NT.J t - (j + 1)) (j + 1) acc := by
        by_cases q : j < NT.J t
        · rw [show NT.J t - j = (NT.J t - (j + 1)) + 1 by omega]; exact off_n hs
        · rw [show NT.J t - j = 0 by omega, show NT.J t - (j + 1) = 0 by omega]; rfl
      rw [e]
      refine r_iload_4 dX1_farFrom_5 ?_
      refine r_bipush (v := nI 9) dX1_farFrom_7 (by decide) ?_
      refine r_icmpN_ge 86 dX1_farFrom_9 (by decide) (by omega) (by omega) (fun c_9 => by omega) (fun c_9 => ?_)
      refine r_aload_0 dX1_farFrom_12 ?_
      refine r_getI dX1_farFrom_13 fl_X1_15 rfl ?_
      refine r_iload_4 dX1_farFrom_16 ?_
      refine r_cSN2 mX7_bit dX1_farFrom_18 ml_X1_29 mo_X7_bit (k_bit _ _ (j := j) (by omega)) (by decide) ?_
      rw [mb j (by omega), hs, b2i_f (by decide)]
      refine r_iconst (v := 1) dX1_farFrom_21 (by decide) ?_
      refine r_icmp_ne 80 dX1_farFrom_22 (by decide) (fun c_22 => ?_) (fun c_22 => by exact absurd c_22 (by decide))
      refine r_iincN_4 dX1_farFrom_80 ?_
      refine r_goto 5 dX1_farFrom_83 (by decide) ?_
      refine RT.sub (lv' := [some (.ref 72), some (.ref 41), some (.long acc), none, some (.int (nI (j + 1))), none]) (by simp [lsub]) ?_
      exact ih (j + 1) _ (by omega)
    | some v =>
      have hjJ := mok j v hs
      rw [show NT.J t - j = (NT.J t - (j + 1)) + 1 by omega]
      by_cases hm : mtN t j = true
      · rw [off_m hs hm]
        refine r_iload_4 dX1_farFrom_5 ?_
        refine r_bipush (v := nI 9) dX1_farFrom_7 (by decide) ?_
        refine r_icmpN_ge 86 dX1_farFrom_9 (by decide) (by omega) (by omega) (fun c_9 => by omega) (fun c_9 => ?_)
        refine r_aload_0 dX1_farFrom_12 ?_
        refine r_getI dX1_farFrom_13 fl_X1_15 rfl ?_
        refine r_iload_4 dX1_farFrom_16 ?_
        refine r_cSN2 mX7_bit dX1_farFrom_18 ml_X1_29 mo_X7_bit (k_bit _ _ (j := j) (by omega)) (by decide) ?_
        rw [mb j (by omega), hs, b2i_t (c := (some v).isSome = true) rfl]
        refine r_iconst (v := 1) dX1_farFrom_21 (by decide) ?_
        refine r_icmp_ne 80 dX1_farFrom_22 (by decide) (fun c_22 => by exact absurd rfl c_22) (fun c_22 => ?_)
        refine r_aload_1 dX1_farFrom_25 ?_
        refine r_getR (a := 52) dX1_farFrom_26 fl_X1_33 rfl rfl ?_
        refine r_getI dX1_farFrom_29 fl_X1_39 rfl ?_
        refine r_iload_4 dX1_farFrom_32 ?_
        refine r_cSN2 mX7_bit dX1_farFrom_34 ml_X1_29 mo_X7_bit (k_bit _ _ (j := j) (by omega)) (by decide) ?_
        rw [tm j (by omega), b2i_t hm]
        refine r_if_ne 44 dX1_farFrom_37 (by decide) (fun c_37 => ?_) (fun c_37 => by exact absurd c_37 (by decide))
        refine r_iconst (v := 0) dX1_farFrom_44 (by decide) ?_
        refine r_istore_5 dX1_farFrom_45 ?_
        refine r_lload_2 dX1_farFrom_47 ?_
        refine r_iload_5 dX1_farFrom_48 ?_
        refine r_if_eq 59 dX1_farFrom_50 (by decide) (fun c_50 => ?_) (fun c_50 => by exact absurd rfl c_50)
        refine r_aload_1 dX1_farFrom_59 ?_
        refine r_getR (a := 64) dX1_farFrom_60 fl_X1_46 rfl rfl ?_
        refine r_iload_4 dX1_farFrom_63 ?_
        refine r_laldN dX1_farFrom_65 rfl (by omega) ?_
        rw [show h.2 64 j = hdN t j from hh j hm]
        refine r_aload_0 dX1_farFrom_66 ?_
        refine r_getR (a := 73) dX1_farFrom_67 fl_X1_9 rfl rfl ?_
        refine r_iload_4 dX1_farFrom_70 ?_
        refine r_ialdN dX1_farFrom_72 rfl (by omega) ?_
        rw [mv j v hs]
        refine r_i2l dX1_farFrom_73 ?_
        refine r_lsub dX1_farFrom_74 ?_
        refine r_labs dX1_farFrom_75 ml_X1_50 mo_Mabs (by decide) ?_
        rw [abs_eq]
        refine r_ladd dX1_farFrom_78 ?_
        refine r_lstore_2 dX1_farFrom_79 ?_
        refine r_iincN_4 dX1_farFrom_80 ?_
        refine r_goto 5 dX1_farFrom_83 (by decide) ?_
        refine RT.sub (lv' := [some (.ref 72), some (.ref 41), some (.long (acc + abS (hdN t j - v.toInt64))), none, some (.int (nI (j + 1))), none]) (by simp [lsub]) ?_
        exact ih (j + 1) _ (by omega)
      · rw [off_d hs hm]
        refine r_iload_4 dX1_farFrom_5 ?_
        refine r_bipush (v := nI 9) dX1_farFrom_7 (by decide) ?_
        refine r_icmpN_ge 86 dX1_farFrom_9 (by decide) (by omega) (by omega) (fun c_9 => by omega) (fun c_9 => ?_)
        refine r_aload_0 dX1_farFrom_12 ?_
        refine r_getI dX1_farFrom_13 fl_X1_15 rfl ?_
        refine r_iload_4 dX1_farFrom_16 ?_
        refine r_cSN2 mX7_bit dX1_farFrom_18 ml_X1_29 mo_X7_bit (k_bit _ _ (j := j) (by omega)) (by decide) ?_
        rw [mb j (by omega), hs, b2i_t (c := (some v).isSome = true) rfl]
        refine r_iconst (v := 1) dX1_farFrom_21 (by decide) ?_
        refine r_icmp_ne 80 dX1_farFrom_22 (by decide) (fun c_22 => by exact absurd rfl c_22) (fun c_22 => ?_)
        refine r_aload_1 dX1_farFrom_25 ?_
        refine r_getR (a := 52) dX1_farFrom_26 fl_X1_33 rfl rfl ?_
        refine r_getI dX1_farFrom_29 fl_X1_39 rfl ?_
        refine r_iload_4 dX1_farFrom_32 ?_
        refine r_cSN2 mX7_bit dX1_farFrom_34 ml_X1_29 mo_X7_bit (k_bit _ _ (j := j) (by omega)) (by decide) ?_
        rw [tm j (by omega), b2i_f hm]
        refine r_if_ne 44 dX1_farFrom_37 (by decide) (fun c_37 => by exact absurd rfl c_37) (fun c_37 => ?_)
        refine r_iconst (v := 1) dX1_farFrom_40 (by decide) ?_
        refine r_goto 45 dX1_farFrom_41 (by decide) ?_
        refine r_istore_5 dX1_farFrom_45 ?_
        refine r_lload_2 dX1_farFrom_47 ?_
        refine r_iload_5 dX1_farFrom_48 ?_
        refine r_if_eq 59 dX1_farFrom_50 (by decide) (fun c_50 => by exact absurd c_50 (by decide)) (fun c_50 => ?_)
        refine r_ldc2 dX1_farFrom_53 ks_X1_44 ?_
        refine r_goto 78 dX1_farFrom_56 (by decide) ?_
        refine r_ladd dX1_farFrom_78 ?_
        refine r_lstore_2 dX1_farFrom_79 ?_
        refine r_iincN_4 dX1_farFrom_80 ?_
        refine r_goto 5 dX1_farFrom_83 (by decide) ?_
        refine RT.sub (lv' := [some (.ref 72), some (.ref 41), some (.long (acc + 1000000)), none, some (.int (nI (j + 1))), none]) (by simp [lsub]) ?_
        exact ih (j + 1) _ (by omega)
set_option maxRecDepth 100000 in
set_option maxHeartbeats 4000000 in
theorem k_far {t : NT} (ok : okT t) {ms : MES} (mok : ∀ j v, ms j = some v → j < NT.J t) {h : PH} (sc : SolC h 41 t (solveS (snOf t))) (mb : ∀ j, j < 32 → bt (h.1 72 0) j = (ms j).isSome) (mv : ∀ j v, ms j = some v → h.1 73 j = v) : ConF mX1_farFrom 2 [.ref 72, .ref 41] h (some (.long (offT t ms (NT.J t - 1) 1 0))) h := by
  refine Con.mk (by decide) ?_
  show RT _ _ 0 [some (.ref 72), some (.ref 41), none, none, none, none] [] _ _
  refine r_lconst (v := 0) dX1_farFrom_0 (by decide) ?_
  refine r_lstore_2 dX1_farFrom_1 ?_
  refine r_iconst (v := nI 1) dX1_farFrom_2 (by decide) ?_
  refine r_istore_4 dX1_farFrom_3 ?_
  exact far_loop ok mok sc mb mv 8 1 0 (by omega)

set_option maxRecDepth 100000 in
set_option maxHeartbeats 4000000 in
theorem moff_loop {t : NT} (ok : okT t) {ms : MES} {h : PH} (sm : SolM h t (solveS (snOf t))) (mem : MeaM h ms) {x n : Nat} : ∀ (m j : Nat) (acc : Int64), j + m = NT.J t → RT mX8_offWith 8 11 [some (.ref 74), some (.int (nI x)), some (.int (nI n)), some (.long acc), none, some (.int (nI j))] [] h (fun a h' => a = some (.long (offT t ms m j acc)) ∧ h' = h) := by
  have hJ9 := ok.2.1
  have k6 : h.1 74 6 = nI (NT.J t) := sm.1.1
  have tm : ∀ i, i < 32 → bt (h.1 74 29) i = mtN t i := sm.2.2.2.2.2.1.1
  have hh := hd_at ok _ sm.2.2.2.2.2.2.2.2
  intro m
  induction m with
  | zero =>
    intro j acc hj
    refine r_iload_5 dX8_offWith_11 ?_
    refine r_aload_0 dX8_offWith_13 ?_
    refine r_getI dX8_offWith_14 fl_X8_229 rfl ?_
    rw [k6]
    refine r_icmpN_ge 73 dX8_offWith_17 (by decide) (by omega) (by omega) (fun c_17 => ?_) (fun c_17 => by omega)
    refine r_lload_3 dX8_offWith_73 ?_
    refine r_lret dX8_offWith_74 rfl ?_
    exact ⟨rfl, rfl⟩
  | succ m ih =>
    intro j acc hj
    cases hs : ms j with
    | none =>
      rw [off_n hs]
      refine r_iload_5 dX8_offWith_11 ?_
      refine r_aload_0 dX8_offWith_13 ?_
      refine r_getI dX8_offWith_14 fl_X8_229 rfl ?_
      rw [k6]
      refine r_icmpN_ge 73 dX8_offWith_17 (by decide) (by omega) (by omega) (fun c_17 => by omega) (fun c_17 => ?_)
      refine r_aload_0 dX8_offWith_20 ?_
      refine r_getR (a := 94) dX8_offWith_21 fl_X8_80 rfl rfl ?_
      refine r_iload_5 dX8_offWith_24 ?_
      refine r_zaldN dX8_offWith_26 rfl (by omega) ?_
      rw [(mem j (by omega)).1, hs]
      refine r_if_eq 67 dX8_offWith_27 (by decide) (fun c_27 => ?_) (fun c_27 => by exact absurd rfl c_27)
      refine r_iincN_5 dX8_offWith_67 ?_
      refine r_goto 11 dX8_offWith_70 (by decide) ?_
      exact ih (j + 1) _ (by omega)
    | some v =>
      by_cases hm : mtN t j = true
      · rw [off_m hs hm]
        refine r_iload_5 dX8_offWith_11 ?_
        refine r_aload_0 dX8_offWith_13 ?_
        refine r_getI dX8_offWith_14 fl_X8_229 rfl ?_
        rw [k6]
        refine r_icmpN_ge 73 dX8_offWith_17 (by decide) (by omega) (by omega) (fun c_17 => by omega) (fun c_17 => ?_)
        refine r_aload_0 dX8_offWith_20 ?_
        refine r_getR (a := 94) dX8_offWith_21 fl_X8_80 rfl rfl ?_
        refine r_iload_5 dX8_offWith_24 ?_
        refine r_zaldN dX8_offWith_26 rfl (by omega) ?_
        rw [(mem j (by omega)).1, hs]
        refine r_if_eq 67 dX8_offWith_27 (by decide) (fun c_27 => by exact absurd (show (1 : Int32) = 0 from c_27) (by decide)) (fun c_27 => ?_)
        refine r_lload_3 dX8_offWith_30 ?_
        refine r_aload_0 dX8_offWith_31 ?_
        refine r_iload_5 dX8_offWith_32 ?_
        refine r_cV1 mX8_isMet dX8_offWith_34 ml_X8_272 mo_X8_isMet rfl (q_isMet _ (j := j) (by omega)) (by decide) ?_
        rw [tm j (by omega), hm]
        refine r_if_eq 62 dX8_offWith_37 (by decide) (fun c_37 => by exact absurd c_37 (by decide)) (fun c_37 => ?_)
        refine r_aload_0 dX8_offWith_40 ?_
        refine r_getR (a := 91) dX8_offWith_41 fl_X8_65 rfl rfl ?_
        refine r_iload_5 dX8_offWith_44 ?_
        refine r_laldN dX8_offWith_46 rfl (by omega) ?_
        rw [show h.2 91 j = hdN t j from hh j hm]
        refine r_aload_0 dX8_offWith_47 ?_
        refine r_getR (a := 95) dX8_offWith_48 fl_X8_84 rfl rfl ?_
        refine r_iload_5 dX8_offWith_51 ?_
        refine r_ialdN dX8_offWith_53 rfl (by omega) ?_
        rw [(mem j (by omega)).2 v hs]
        refine r_i2l dX8_offWith_54 ?_
        refine r_lsub dX8_offWith_55 ?_
        refine r_labs dX8_offWith_56 ml_X8_466 mo_Mabs (by decide) ?_
        rw [abs_eq]
        refine r_goto 65 dX8_offWith_59 (by decide) ?_
        refine r_ladd dX8_offWith_65 ?_
        refine r_lstore_3 dX8_offWith_66 ?_
        refine r_iincN_5 dX8_offWith_67 ?_
        refine r_goto 11 dX8_offWith_70 (by decide) ?_
        exact ih (j + 1) _ (by omega)
      · rw [off_d hs hm]
        refine r_iload_5 dX8_offWith_11 ?_
        refine r_aload_0 dX8_offWith_13 ?_
        refine r_getI dX8_offWith_14 fl_X8_229 rfl ?_
        rw [k6]
        refine r_icmpN_ge 73 dX8_offWith_17 (by decide) (by omega) (by omega) (fun c_17 => by omega) (fun c_17 => ?_)
        refine r_aload_0 dX8_offWith_20 ?_
        refine r_getR (a := 94) dX8_offWith_21 fl_X8_80 rfl rfl ?_
        refine r_iload_5 dX8_offWith_24 ?_
        refine r_zaldN dX8_offWith_26 rfl (by omega) ?_
        rw [(mem j (by omega)).1, hs]
        refine r_if_eq 67 dX8_offWith_27 (by decide) (fun c_27 => by exact absurd (show (1 : Int32) = 0 from c_27) (by decide)) (fun c_27 => ?_)
        refine r_lload_3 dX8_offWith_30 ?_
        refine r_aload_0 dX8_offWith_31 ?_
        refine r_iload_5 dX8_offWith_32 ?_
        refine r_cV1 mX8_isMet dX8_offWith_34 ml_X8_272 mo_X8_isMet rfl (q_isMet _ (j := j) (by omega)) (by decide) ?_
        rw [tm j (by omega), Bool.eq_false_iff.mpr hm]
        refine r_if_eq 62 dX8_offWith_37 (by decide) (fun c_37 => ?_) (fun c_37 => by exact absurd rfl c_37)
        refine r_ldc2 dX8_offWith_62 ks_X8_472 ?_
        refine r_ladd dX8_offWith_65 ?_
        refine r_lstore_3 dX8_offWith_66 ?_
        refine r_iincN_5 dX8_offWith_67 ?_
        refine r_goto 11 dX8_offWith_70 (by decide) ?_
        exact ih (j + 1) _ (by omega)
set_option maxRecDepth 100000 in
set_option maxHeartbeats 4000000 in
theorem q_offWith {h : PH} {t : NT} (tx : TxOK t) (r : RawM h t) (h46 : h.1 74 46 = 100) {ms : MES} (mem : MeaM h ms) {j : Nat} (hj : j < NT.J t) {n : Nat} (hn : n ≤ 60) : Con mX8_offWith 8 [.ref 74, .int (nI j), .int (nI n)] h (fun a h' => a = some (.long (farT t ms j n)) ∧ (h'.1 74 46 = 100 ∧ FM slS slG h h')) := by
  have hJ := tx.2.1
  refine Con.mk (by decide) ?_
  show RT _ _ 0 [some (.ref 74), some (.int (nI j)), some (.int (nI n)), none, none, none] [] _ _
  refine r_aload_0 dX8_offWith_0 ?_
  refine r_iload_1 dX8_offWith_1 ?_
  refine r_iload_2 dX8_offWith_2 ?_
  refine r_cWQ2 mX8_solvesWith dX8_offWith_3 ml_X8_428 mo_X8_solvesWith rfl (q_more tx r h46 hj hn) (by decide) (fun h1 p1 => ?_)
  obtain ⟨s1, e1, f1⟩ := p1
  refine r_lconst (v := 0) dX8_offWith_6 (by decide) ?_
  refine r_lstore_3 dX8_offWith_7 ?_
  refine r_iconst (v := nI 1) dX8_offWith_8 (by decide) ?_
  refine r_istore_5 dX8_offWith_9 ?_
  exact (moff_loop (tx.more j hn) s1 (mem.fm f1) (NT.J t - 1) 1 0 (by show 1 + (NT.J t - 1) = NT.J t; omega)).imp (fun a h' q => ⟨q.1, by rw [q.2]; exact ⟨e1, f1⟩⟩)

set_option maxRecDepth 100000 in
set_option maxHeartbeats 4000000 in
theorem o_off {h : PH} (i : INV h) (x n : Int32) : Same2 mX7_off 7 [.ref 0, .int x, .int n] mX8_off 9 [.ref 74, .int x, .int n] h := by
  have i0 := i
  obtain ⟨n0, bs, tr, fl, wp, t, nm, ac, ms, i1, i2, i3, i4, i5, i6⟩ := i
  have hb := i3.e
  have f6 : ∀ {h1 : PH} {y : Int32}, PC h y h1 → h1.1 74 6 = nI (NT.J t) := fun p => by rw [(p.kM 74 (by omega)).1]; exact i6.1
  have pr : ∀ y, PC h y (clH h y) := fun y => Fr.rf
  by_cases hx : x ≠ 0 ∧ 0 ≤ x ∧ x < nI (NT.J t)
  · by_cases hn : (0 : Int32) ≤ n ∧ n ≤ 40
    · obtain ⟨j, hj, rfl⟩ := ex_nat hb.1 hx.2
      obtain ⟨m, hm, rfl⟩ := ex_le (k := 40) (by decide) hn
      have hJ : 0 < NT.J t := by omega
      obtain ⟨tx, nok, mok, sc, nac, acc, mec⟩ := i3.2.2.2 hJ
      have n9 := mok.n9 tx.1
      have me0 : ∀ {h1 : PH} {y : Int32}, PC h y h1 → MeaM h1 ms := fun p => ((i6.k p.kM).2.2.2.2.2 hJ).2.2.2.2
      by_cases hc : cnM ms = 0
      · refine Same.to2 i0 ⟨.long (-9223372036854775808), 5, by decide, ?_, ?_⟩
        · refine Con.mk (by decide) ?_
          show RT _ _ 0 [some (.ref 0), some (.int (nI j)), some (.int (nI m))] [] _ _
          refine r_aload_0 dX7_off_0 ?_
          refine r_iload_1 dX7_off_1 ?_
          refine r_cV1 mX7_isDrawingJoint dX7_off_2 ml_X7_232 mo_X7_isDrawingJoint rfl (k_isDrawing hb.1 i3.1 _) (by decide) ?_
          rw [b2i_t hx]
          refine r_if_ne 14 dX7_off_5 (by decide) (fun c_5 => ?_) (fun c_5 => by exact absurd c_5 (by decide))
          refine r_iload_2 dX7_off_14 ?_
          refine r_if_lt 24 dX7_off_15 (by decide) (fun c_15 => by exact absurd c_15 (nI_pos (by omega))) (fun c_15 => ?_)
          refine r_iload_2 dX7_off_18 ?_
          refine r_bipush (v := nI 40) dX7_off_19 (by decide) ?_
          refine r_icmpN_le 30 dX7_off_21 (by decide) (by omega) (by omega) (fun c_21 => ?_) (fun c_21 => by omega)
          refine r_aload_0 dX7_off_30 ?_
          refine r_getR (a := 72) dX7_off_31 fl_X7_54 rfl rfl ?_
          refine r_cV0 mX1_count dX7_off_34 ml_X7_135 mo_X1_count rfl (k_count mec.1 n9) (by decide) ?_
          rw [hc]
          refine r_if_ne 46 dX7_off_37 (by decide) (fun c_37 => by exact absurd rfl c_37) (fun c_37 => ?_)
          refine r_aload_0 dX7_off_40 ?_
          refine r_iconst (v := 5) dX7_off_41 (by decide) ?_
          refine r_cV1 mX7_refuseLong dX7_off_42 ml_X7_171 mo_X7_refuseLong rfl (k_refuseL h 5) (by decide) ?_
          refine r_lret dX7_off_45 rfl ?_
          exact ⟨rfl, rfl⟩
        · refine Con.mk (by decide) ?_
          show RT _ _ 0 [some (.ref 74), some (.int (nI j)), some (.int (nI m)), none, none, none] [] _ _
          refine r_aload_0 dX8_off_0 ?_
          refine r_iload_1 dX8_off_1 ?_
          refine r_cV1 mX8_isDrawing dX8_off_2 ml_X8_421 mo_X8_isDrawing rfl (q_isDrawing _ hb.1 (f6 (pr 5)) _) (by decide) ?_
          rw [b2i_t hx]
          refine r_iload_2 dX8_off_5 ?_
          refine r_i2l dX8_off_6 ?_
          refine r_lconst (v := 0) dX8_off_7 (by decide) ?_
          refine r_ldc2 dX8_off_8 ks_X8_474 ?_
          refine r_cS3 mX8_in dX8_off_11 ml_X8_131 mo_X8_in (q_in _ _ _ _) (by decide) ?_
          rw [b2i_c (in_w (a' := 0) (b' := 40) (by decide +kernel) (by decide +kernel)), b2i_t hn]
          refine r_cS2 mX8_unless_ dX8_off_14 ml_X8_241 mo_X8_unless_ (q_unless2 _ _ _) (by decide) ?_
          rw [show (if (1 : Int32) = 0 then (1 : Int32) else if (1 : Int32) = 0 then 2 else 0) = 0 by decide]
          refine r_istore_3 dX8_off_17 ?_
          refine r_aload_0 dX8_off_18 ?_
          refine r_iload_3 dX8_off_19 ?_
          refine r_if_eq 27 dX8_off_20 (by decide) (fun c_20 => ?_) (fun c_20 => by exact absurd rfl c_20)
          refine r_aload_0 dX8_off_27 ?_
          refine r_cV0 mX8_measuredMany dX8_off_28 ml_X8_394 mo_X8_measuredMany rfl (q_many (me0 (pr 5))) (by decide) ?_
          rw [hc]
          refine r_if_ne 38 dX8_off_31 (by decide) (fun c_31 => by exact absurd rfl c_31) (fun c_31 => ?_)
          refine r_iconst (v := 5) dX8_off_34 (by decide) ?_
          refine r_goto 39 dX8_off_35 (by decide) ?_
          refine r_cV1 mX8_isRefused dX8_off_39 ml_X8_245 mo_X8_isRefused rfl (q_isRefused _ _) (by decide) ?_
          rw [b2i_t (by decide)]
          refine r_if_eq 49 dX8_off_42 (by decide) (fun c_42 => by exact absurd c_42 (by decide)) (fun c_42 => ?_)
          refine r_ldc2 dX8_off_45 ks_X8_102 ?_
          refine r_lret dX8_off_48 rfl ?_
          exact ⟨rfl, rfl⟩
      · refine ⟨.long (farT t ms j m), PC h 0, fun h1 h2 => SolM h2 t (solveS (snOf t)) ∧ h2.1 74 44 = -1 ∧ h2.1 74 46 = 100 ∧ FM slS slG (rfH h1 0) h2, ?_, fun h1 q => ?_, fun h1 h2 q z => inv_paper2 i1 i2 i3 i4 i5 (by decide) q z.2.2.2 (MX.fm2 ((i6.k q.kM).rf 0) z.1 z.2.1 z.2.2.1 z.2.2.2 hJ)⟩
        · have nc : NetC (clH h 0) 15 t := ((i3.k (clH_kC (x := 0))).2.2.2 hJ).2.2.2.1.1
          refine Con.mk (by decide) ?_
          show RT _ _ 0 [some (.ref 0), some (.int (nI j)), some (.int (nI m))] [] _ _
          refine r_aload_0 dX7_off_0 ?_
          refine r_iload_1 dX7_off_1 ?_
          refine r_cV1 mX7_isDrawingJoint dX7_off_2 ml_X7_232 mo_X7_isDrawingJoint rfl (k_isDrawing hb.1 i3.1 _) (by decide) ?_
          rw [b2i_t hx]
          refine r_if_ne 14 dX7_off_5 (by decide) (fun c_5 => ?_) (fun c_5 => by exact absurd c_5 (by decide))
          refine r_iload_2 dX7_off_14 ?_
          refine r_if_lt 24 dX7_off_15 (by decide) (fun c_15 => by exact absurd c_15 (nI_pos (by omega))) (fun c_15 => ?_)
          refine r_iload_2 dX7_off_18 ?_
          refine r_bipush (v := nI 40) dX7_off_19 (by decide) ?_
          refine r_icmpN_le 30 dX7_off_21 (by decide) (by omega) (by omega) (fun c_21 => ?_) (fun c_21 => by omega)
          refine r_aload_0 dX7_off_30 ?_
          refine r_getR (a := 72) dX7_off_31 fl_X7_54 rfl rfl ?_
          refine r_cV0 mX1_count dX7_off_34 ml_X7_135 mo_X1_count rfl (k_count mec.1 n9) (by decide) ?_
          refine r_if_ne 46 dX7_off_37 (by decide) (fun c_37 => ?_) (fun c_37 => by exact absurd c_37 hc)
          refine r_aload_0 dX7_off_46 ?_
          refine r_cW0 mX7_allow dX7_off_47 ml_X7_79 mo_X7_allow rfl (k_allow h) (by decide) ?_
          refine r_aload_0 dX7_off_50 ?_
          refine r_iload_1 dX7_off_51 ?_
          refine r_iload_2 dX7_off_52 ?_
          refine r_cWQ2 mX7_solveWithMore dX7_off_53 ml_X7_265 mo_X7_solveWithMore rfl (k_more tx nc hj (n := m) (by omega)) (by decide) (fun h1 p1 => ?_)
          obtain ⟨s1, f1⟩ := p1
          refine r_aload_0 dX7_off_56 ?_
          refine r_getR (a := 72) dX7_off_57 fl_X7_54 rfl rfl ?_
          refine r_aload_0 dX7_off_60 ?_
          refine r_getR (a := 41) dX7_off_61 fl_X7_38 rfl rfl ?_
          refine r_cV1 mX1_farFrom dX7_off_64 ml_X7_280 mo_X1_farFrom rfl (k_far (tx.more j (by omega)) (fun k v q => (mok k v q).2.1) s1 (fun k hk => by rw [(f1 72 (fun q => by have := q.2; omega)).1, clH_1 (by decide)]; exact mec.1 k hk) (fun k v q => by rw [(f1 73 (fun q => by have := q.2; omega)).1, clH_1 (by decide)]; exact mec.2.1 k v q)) (by decide) ?_
          refine r_lret dX7_off_67 rfl ?_
          exact ⟨rfl, f1⟩
        · obtain ⟨-, -, m44, m46, -, mm⟩ := (i6.k q.kM).rf 0
          obtain ⟨rwm, sm, nam, acm, mem⟩ := mm hJ
          refine Con.mk (by decide) ?_
          show RT _ _ 0 [some (.ref 74), some (.int (nI j)), some (.int (nI m)), none, none, none] [] _ _
          refine r_aload_0 dX8_off_0 ?_
          refine r_iload_1 dX8_off_1 ?_
          refine r_cV1 mX8_isDrawing dX8_off_2 ml_X8_421 mo_X8_isDrawing rfl (q_isDrawing _ hb.1 (f6 q) _) (by decide) ?_
          rw [b2i_t hx]
          refine r_iload_2 dX8_off_5 ?_
          refine r_i2l dX8_off_6 ?_
          refine r_lconst (v := 0) dX8_off_7 (by decide) ?_
          refine r_ldc2 dX8_off_8 ks_X8_474 ?_
          refine r_cS3 mX8_in dX8_off_11 ml_X8_131 mo_X8_in (q_in _ _ _ _) (by decide) ?_
          rw [b2i_c (in_w (a' := 0) (b' := 40) (by decide +kernel) (by decide +kernel)), b2i_t hn]
          refine r_cS2 mX8_unless_ dX8_off_14 ml_X8_241 mo_X8_unless_ (q_unless2 _ _ _) (by decide) ?_
          rw [show (if (1 : Int32) = 0 then (1 : Int32) else if (1 : Int32) = 0 then 2 else 0) = 0 by decide]
          refine r_istore_3 dX8_off_17 ?_
          refine r_aload_0 dX8_off_18 ?_
          refine r_iload_3 dX8_off_19 ?_
          refine r_if_eq 27 dX8_off_20 (by decide) (fun c_20 => ?_) (fun c_20 => by exact absurd rfl c_20)
          refine r_aload_0 dX8_off_27 ?_
          refine r_cV0 mX8_measuredMany dX8_off_28 ml_X8_394 mo_X8_measuredMany rfl (q_many (me0 q)) (by decide) ?_
          refine r_if_ne 38 dX8_off_31 (by decide) (fun c_31 => ?_) (fun c_31 => by exact absurd c_31 hc)
          refine r_iconst (v := 0) dX8_off_38 (by decide) ?_
          refine r_cV1 mX8_isRefused dX8_off_39 ml_X8_245 mo_X8_isRefused rfl (q_isRefused _ _) (by decide) ?_
          rw [b2i_f (by decide)]
          refine r_if_eq 49 dX8_off_42 (by decide) (fun c_42 => ?_) (fun c_42 => by exact absurd rfl c_42)
          refine r_aload_0 dX8_off_49 ?_
          refine r_iload_1 dX8_off_50 ?_
          refine r_iload_2 dX8_off_51 ?_
          refine r_cVQ2 mX8_offWith dX8_off_52 ml_X8_476 mo_X8_offWith rfl (q_offWith tx rwm m46 mem hj (n := m) (by omega)) (by decide) (fun h3 p3 => ?_)
          obtain ⟨e3, f3⟩ := p3
          refine r_lstore_4 dX8_off_55 ?_
          refine r_aload_0 dX8_off_57 ?_
          refine r_cWQ0 mX8_solvesAgain dX8_off_58 ml_X8_435 mo_X8_solvesAgain rfl (q_again tx (rwm.fm f3) e3) (by decide) (fun h4 p4 => ?_)
          obtain ⟨s4, e4, e5, f4⟩ := p4
          refine r_lload_4 dX8_off_61 ?_
          refine r_lret dX8_off_63 rfl ?_
          exact ⟨rfl, s4, e4, e5, f3.tr f4⟩
    · refine Same.to2 i0 ⟨.long (-9223372036854775808), 2, by decide, ?_, ?_⟩
      · refine Con.mk (by decide) ?_
        show RT _ _ 0 [some (.ref 0), some (.int x), some (.int n)] [] _ _
        refine r_aload_0 dX7_off_0 ?_
        refine r_iload_1 dX7_off_1 ?_
        refine r_cV1 mX7_isDrawingJoint dX7_off_2 ml_X7_232 mo_X7_isDrawingJoint rfl (k_isDrawing hb.1 i3.1 _) (by decide) ?_
        rw [b2i_t hx]
        refine r_if_ne 14 dX7_off_5 (by decide) (fun c_5 => ?_) (fun c_5 => by exact absurd c_5 (by decide))
        refine r_iload_2 dX7_off_14 ?_
        refine r_if_lt 24 dX7_off_15 (by decide) (fun c_15 => ?_) (fun c_15 => ?_)
        · refine r_aload_0 dX7_off_24 ?_
          refine r_iconst (v := 2) dX7_off_25 (by decide) ?_
          refine r_cV1 mX7_refuseLong dX7_off_26 ml_X7_171 mo_X7_refuseLong rfl (k_refuseL h 2) (by decide) ?_
          refine r_lret dX7_off_29 rfl ?_
          exact ⟨rfl, rfl⟩
        · refine r_iload_2 dX7_off_18 ?_
          refine r_bipush (v := 40) dX7_off_19 (by decide) ?_
          refine r_icmp_le 30 dX7_off_21 (by decide) (fun c_21 => ?_) (fun c_21 => ?_)
          · exact absurd ⟨ge_of_nlt c_15, c_21⟩ hn
          · refine r_aload_0 dX7_off_24 ?_
            refine r_iconst (v := 2) dX7_off_25 (by decide) ?_
            refine r_cV1 mX7_refuseLong dX7_off_26 ml_X7_171 mo_X7_refuseLong rfl (k_refuseL h 2) (by decide) ?_
            refine r_lret dX7_off_29 rfl ?_
            exact ⟨rfl, rfl⟩
      · refine Con.mk (by decide) ?_
        show RT _ _ 0 [some (.ref 74), some (.int x), some (.int n), none, none, none] [] _ _
        refine r_aload_0 dX8_off_0 ?_
        refine r_iload_1 dX8_off_1 ?_
        refine r_cV1 mX8_isDrawing dX8_off_2 ml_X8_421 mo_X8_isDrawing rfl (q_isDrawing _ hb.1 (f6 (pr 2)) _) (by decide) ?_
        rw [b2i_t hx]
        refine r_iload_2 dX8_off_5 ?_
        refine r_i2l dX8_off_6 ?_
        refine r_lconst (v := 0) dX8_off_7 (by decide) ?_
        refine r_ldc2 dX8_off_8 ks_X8_474 ?_
        refine r_cS3 mX8_in dX8_off_11 ml_X8_131 mo_X8_in (q_in _ _ _ _) (by decide) ?_
        rw [b2i_c (in_w (a' := 0) (b' := 40) (by decide +kernel) (by decide +kernel)), b2i_f hn]
        refine r_cS2 mX8_unless_ dX8_off_14 ml_X8_241 mo_X8_unless_ (q_unless2 _ _ _) (by decide) ?_
        rw [show (if (1 : Int32) = 0 then (1 : Int32) else if (0 : Int32) = 0 then 2 else 0) = 2 by decide]
        refine r_istore_3 dX8_off_17 ?_
        refine r_aload_0 dX8_off_18 ?_
        refine r_iload_3 dX8_off_19 ?_
        refine r_if_eq 27 dX8_off_20 (by decide) (fun c_20 => by exact absurd c_20 (by decide)) (fun c_20 => ?_)
        refine r_iload_3 dX8_off_23 ?_
        refine r_goto 39 dX8_off_24 (by decide) ?_
        refine r_cV1 mX8_isRefused dX8_off_39 ml_X8_245 mo_X8_isRefused rfl (q_isRefused _ _) (by decide) ?_
        rw [b2i_t (by decide)]
        refine r_if_eq 49 dX8_off_42 (by decide) (fun c_42 => by exact absurd c_42 (by decide)) (fun c_42 => ?_)
        refine r_ldc2 dX8_off_45 ks_X8_102 ?_
        refine r_lret dX8_off_48 rfl ?_
        exact ⟨rfl, rfl⟩
  · refine Same.to2 i0 ⟨.long (-9223372036854775808), 1, by decide, ?_, ?_⟩
    · refine Con.mk (by decide) ?_
      show RT _ _ 0 [some (.ref 0), some (.int x), some (.int n)] [] _ _
      refine r_aload_0 dX7_off_0 ?_
      refine r_iload_1 dX7_off_1 ?_
      refine r_cV1 mX7_isDrawingJoint dX7_off_2 ml_X7_232 mo_X7_isDrawingJoint rfl (k_isDrawing hb.1 i3.1 _) (by decide) ?_
      rw [b2i_f hx]
      refine r_if_ne 14 dX7_off_5 (by decide) (fun c_5 => by exact absurd rfl c_5) (fun c_5 => ?_)
      refine r_aload_0 dX7_off_8 ?_
      refine r_iconst (v := 1) dX7_off_9 (by decide) ?_
      refine r_cV1 mX7_refuseLong dX7_off_10 ml_X7_171 mo_X7_refuseLong rfl (k_refuseL h 1) (by decide) ?_
      refine r_lret dX7_off_13 rfl ?_
      exact ⟨rfl, rfl⟩
    · refine Con.mk (by decide) ?_
      show RT _ _ 0 [some (.ref 74), some (.int x), some (.int n), none, none, none] [] _ _
      refine r_aload_0 dX8_off_0 ?_
      refine r_iload_1 dX8_off_1 ?_
      refine r_cV1 mX8_isDrawing dX8_off_2 ml_X8_421 mo_X8_isDrawing rfl (q_isDrawing _ hb.1 (f6 (pr 1)) _) (by decide) ?_
      rw [b2i_f hx]
      refine r_iload_2 dX8_off_5 ?_
      refine r_i2l dX8_off_6 ?_
      refine r_lconst (v := 0) dX8_off_7 (by decide) ?_
      refine r_ldc2 dX8_off_8 ks_X8_474 ?_
      refine r_cS3 mX8_in dX8_off_11 ml_X8_131 mo_X8_in (q_in _ _ _ _) (by decide) ?_
      refine r_cS2 mX8_unless_ dX8_off_14 ml_X8_241 mo_X8_unless_ (q_unless2 _ _ _) (by decide) ?_
      rw [if_pos rfl]
      refine r_istore_3 dX8_off_17 ?_
      refine r_aload_0 dX8_off_18 ?_
      refine r_iload_3 dX8_off_19 ?_
      refine r_if_eq 27 dX8_off_20 (by decide) (fun c_20 => by exact absurd c_20 (by decide)) (fun c_20 => ?_)
      refine r_iload_3 dX8_off_23 ?_
      refine r_goto 39 dX8_off_24 (by decide) ?_
      refine r_cV1 mX8_isRefused dX8_off_39 ml_X8_245 mo_X8_isRefused rfl (q_isRefused _ _) (by decide) ?_
      rw [b2i_t (by decide)]
      refine r_if_eq 49 dX8_off_42 (by decide) (fun c_42 => by exact absurd c_42 (by decide)) (fun c_42 => ?_)
      refine r_ldc2 dX8_off_45 ks_X8_102 ?_
      refine r_lret dX8_off_48 rfl ?_
      exact ⟨rfl, rfl⟩

