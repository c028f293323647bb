/-! ===== the class: reads of Waters, Net, Rings, Tree ===== -/
theorem max_cm (a b : Int64) : (if b < a then a else b) = (if a < b then b else a) := by
  by_cases h1 : b < a
  · rw [if_pos h1, if_neg (fun h2 => by rw [fa_lt64] at h1 h2; omega)]
  · rw [if_neg h1]
    by_cases h2 : a < b
    · rw [if_pos h2]
    · rw [if_neg h2]; rw [fa_lt64] at h1 h2; rw [fa_eq64]; omega
theorem nI_ne_m2 {n : Nat} (h : n < 14) : ¬ nI n = -2 := (by decide +kernel : ∀ x, x < 14 → ¬ nI x = -2) n h
set_option maxRecDepth 100000 in
set_option maxHeartbeats 4000000 in
theorem k_dry {w : Nat} (hW : isW w) {t : NT} (ok : okT t) (sh : Int32) {h : PH} (nc : NetC h (w + 1) t) (tc : TreeC h (w + 11) (NT.fi t) (NT.se t) (trS (snOf t) sh))  : ConF mX6_dryJoints 1 [.ref w] h (some (.int (dryS (NT.J t) (trS (snOf t) sh)))) h := by
  refine Con.mk (by decide) ?_
  show RT _ _ 0 [some (.ref w)] [] _ _
  refine r_iconst (v := 1) dX6_dryJoints_0 (by decide) ?_
  refine r_aload_0 dX6_dryJoints_1 ?_
  refine r_getR (a := (w + 1)) dX6_dryJoints_2 fl_X6_12 (hW.s 0 (by decide)) rfl ?_
  refine r_getI dX6_dryJoints_5 fl_X6_214 (hW.s 1 (by decide)) ?_
  rw [nc.1]
  refine r_ishl dX6_dryJoints_8 ?_
  refine r_iconst (v := 1) dX6_dryJoints_9 (by decide) ?_
  refine r_isub dX6_dryJoints_10 ?_
  refine r_aload_0 dX6_dryJoints_11 ?_
  refine r_getR (a := (w + 11)) dX6_dryJoints_12 fl_X6_21 (hW.s 0 (by decide)) rfl ?_
  refine r_getI dX6_dryJoints_15 fl_X6_211 (hW.s 11 (by decide)) ?_
  rw [metI_e tc.1]
  refine r_iconst (v := (-1)) dX6_dryJoints_18 (by decide) ?_
  refine r_ixor dX6_dryJoints_19 ?_
  refine r_iand dX6_dryJoints_20 ?_
  refine r_iret dX6_dryJoints_21 rfl ?_
  exact ⟨rfl, rfl⟩

set_option maxRecDepth 100000 in
set_option maxHeartbeats 4000000 in
theorem given_loop {w : Nat} (hW : isW w) {t : NT} (ok : okT t) (sh : Int32) {h : PH} (nc : NetC h (w + 1) t) (tc : TreeC h (w + 11) (NT.fi t) (NT.se t) (trS (snOf t) sh)) : ∀ (m i : Nat) (acc : Int32), i + m = (trS (snOf t) sh).1 → RT mX6_given 1 4 [some (.ref w), some (.int acc), some (.int (nI i))] [] h (fun a b => a = some (.int (accI (fun i => NT.dr t ((trS (snOf t) sh).2.1 i)) m i acc)) ∧ b = h) := by
  have tw := ok.tw sh
  have h9 := tw.le
  intro m
  induction m with
  | zero =>
    intro i acc hi
    refine r_iload_2 dX6_given_4 ?_
    refine r_aload_0 dX6_given_5 ?_
    refine r_getR (a := (w + 11)) dX6_given_6 fl_X6_21 (hW.s 0 (by decide)) rfl ?_
    refine r_getI dX6_given_9 fl_X6_100 (hW.s 11 (by decide)) ?_
    rw [tc.2.2.1]
    refine r_icmpN_ge 41 dX6_given_12 (by decide) (by omega) (by omega) (fun c_12 => ?_) (fun c_12 => by omega)
    refine r_iload_1 dX6_given_41 ?_
    refine r_iret dX6_given_42 rfl ?_
    exact ⟨rfl, rfl⟩
  | succ m ih =>
    intro i acc hi
    have hi1 : i < (trS (snOf t) sh).1 := by omega
    have hj := tw.1 i hi1
    have hjJ := ok.met sh hj.2
    refine r_iload_2 dX6_given_4 ?_
    refine r_aload_0 dX6_given_5 ?_
    refine r_getR (a := (w + 11)) dX6_given_6 fl_X6_21 (hW.s 0 (by decide)) rfl ?_
    refine r_getI dX6_given_9 fl_X6_100 (hW.s 11 (by decide)) ?_
    rw [tc.2.2.1]
    refine r_icmpN_ge 41 dX6_given_12 (by decide) (by omega) (by omega) (fun c_12 => by omega) (fun c_12 => ?_)
    refine r_iload_1 dX6_given_15 ?_
    refine r_aload_0 dX6_given_16 ?_
    refine r_getR (a := (w + 1)) dX6_given_17 fl_X6_12 (hW.s 0 (by decide)) rfl ?_
    refine r_getR (a := (w + 1 + 2)) dX6_given_20 fl_X6_109 (hW.s 1 (by decide)) rfl ?_
    refine r_aload_0 dX6_given_23 ?_
    refine r_getR (a := (w + 11)) dX6_given_24 fl_X6_21 (hW.s 0 (by decide)) rfl ?_
    refine r_getR (a := (w + 11 + 1)) dX6_given_27 fl_X6_103 (hW.s 11 (by decide)) rfl ?_
    refine r_iload_2 dX6_given_30 ?_
    refine r_ialdN dX6_given_31 (hW.s 12 (by decide)) (by omega) ?_
    rw [tc.2.2.2.1 i hi1]
    refine r_ialdN dX6_given_32 (hW.s 3 (by decide)) (by omega) ?_
    rw [(nc.2.2.2.2.1 _ hjJ).1]
    refine r_iadd dX6_given_33 ?_
    refine r_istore_1 dX6_given_34 ?_
    refine r_iincN_2 dX6_given_35 ?_
    refine r_goto 4 dX6_given_38 (by decide) ?_
    exact ih (i + 1) _ (by omega)
set_option maxRecDepth 100000 in
set_option maxHeartbeats 4000000 in
theorem k_given {w : Nat} (hW : isW w) {t : NT} (ok : okT t) (sh : Int32) {h : PH} (nc : NetC h (w + 1) t) (tc : TreeC h (w + 11) (NT.fi t) (NT.se t) (trS (snOf t) sh)) : ConF mX6_given 1 [.ref w] h (some (.int (gvS t (trS (snOf t) sh)))) h := by
  refine Con.mk (by decide) ?_
  show RT _ _ 0 [some (.ref w), none, none] [] _ _
  refine r_iconst (v := 0) dX6_given_0 (by decide) ?_
  refine r_istore_1 dX6_given_1 ?_
  refine r_iconst (v := nI 0) dX6_given_2 (by decide) ?_
  refine r_istore_2 dX6_given_3 ?_
  exact given_loop hW ok sh nc tc (trS (snOf t) sh).1 0 0 (by omega)

set_option maxRecDepth 100000 in
set_option maxHeartbeats 4000000 in
theorem k_press {w : Nat} (hW : isW w) {t : NT} (ok : okT t) {h : PH} (nc : NetC h (w + 1) t) (hd : FL) {j : Nat} (hj : j < NT.J t) (hh : h.2 (w + 23) j = hd j) : ConF mX6_pressureAt 1 [.ref w, .int (nI j)] h (some (.long (prS t hd j))) h := by
  refine Con.mk (by decide) ?_
  show RT _ _ 0 [some (.ref w), some (.int (nI j))] [] _ _
  have hj9 := ok.2.1
  by_cases h0 : j = 0
  · subst h0
    refine r_iload_1 dX6_pressureAt_0 ?_
    refine r_if_ne 8 dX6_pressureAt_1 (by decide) (fun c_1 => by exact absurd rfl c_1) (fun c_1 => ?_)
    refine r_lconst (v := 0) dX6_pressureAt_4 (by decide) ?_
    refine r_goto 29 dX6_pressureAt_5 (by decide) ?_
    refine r_lret dX6_pressureAt_29 rfl ?_
    exact ⟨by simp [prS], rfl⟩
  · refine r_iload_1 dX6_pressureAt_0 ?_
    refine r_if_ne 8 dX6_pressureAt_1 (by decide) (fun c_1 => ?_) (fun c_1 => by exact absurd c_1 (nI_nz (by omega) h0))
    refine r_aload_0 dX6_pressureAt_8 ?_
    refine r_getR (a := (w + 23)) dX6_pressureAt_9 fl_X6_36 (hW.s 0 (by decide)) rfl ?_
    refine r_iload_1 dX6_pressureAt_12 ?_
    refine r_laldN dX6_pressureAt_13 (hW.s 23 (by decide)) (by omega) ?_
    rw [hh]
    refine r_ldc2 dX6_pressureAt_14 ks_X6_189 ?_
    refine r_aload_0 dX6_pressureAt_17 ?_
    refine r_getR (a := (w + 1)) dX6_pressureAt_18 fl_X6_12 (hW.s 0 (by decide)) rfl ?_
    refine r_getR (a := (w + 1 + 3)) dX6_pressureAt_21 fl_X6_217 (hW.s 1 (by decide)) rfl ?_
    refine r_iload_1 dX6_pressureAt_24 ?_
    refine r_ialdN dX6_pressureAt_25 (hW.s 4 (by decide)) (by omega) ?_
    rw [(nc.2.2.2.2.1 _ hj).2]
    refine r_i2l dX6_pressureAt_26 ?_
    refine r_lmul dX6_pressureAt_27 ?_
    refine r_lsub dX6_pressureAt_28 ?_
    refine r_lret dX6_pressureAt_29 rfl ?_
    exact ⟨by simp [prS, h0], rfl⟩

set_option maxRecDepth 100000 in
set_option maxHeartbeats 4000000 in
theorem weak_loop {w : Nat} (hW : isW w) {t : NT} (ok : okT t) (sh : Int32) {h : PH} (nc : NetC h (w + 1) t) (tc : TreeC h (w + 11) (NT.fi t) (NT.se t) (trS (snOf t) sh)) (hd : FL) (hh : ∀ j, (trS (snOf t) sh).2.2.2 j = true → h.2 (w + 23) j = hd j) : ∀ (m j : Nat) (b : Option Nat), j + m = NT.J t → 1 ≤ j → (∀ k, b = some k → (trS (snOf t) sh).2.2.2 k = true ∧ 1 ≤ k) → RT mX6_weakestJoint 2 5 [some (.ref w), some (.int (wI b)), some (.int (nI j))] [] h (fun a c => a = some (.int (wI (wkS t (trS (snOf t) sh) hd m j b))) ∧ c = h) := by
  have hJ9 := ok.2.1
  intro m
  induction m with
  | zero =>
    intro j b hj h1 hb
    refine r_iload_2 dX6_weakestJoint_5 ?_
    refine r_aload_0 dX6_weakestJoint_6 ?_
    refine r_getR (a := (w + 1)) dX6_weakestJoint_7 fl_X6_12 (hW.s 0 (by decide)) rfl ?_
    refine r_getI dX6_weakestJoint_10 fl_X6_214 (hW.s 1 (by decide)) ?_
    rw [nc.1]
    refine r_icmpN_ge 59 dX6_weakestJoint_13 (by decide) (by omega) (by omega) (fun c_13 => ?_) (fun c_13 => by omega)
    refine r_iload_1 dX6_weakestJoint_59 ?_
    refine r_iret dX6_weakestJoint_60 rfl ?_
    exact ⟨rfl, rfl⟩
  | succ m ih =>
    intro j b hj h1 hb
    have hjJ : j < NT.J t := by omega
    have hbt := tc.1 j (by omega)
    have ih1 := ih (j + 1) (some j) (by omega) (by omega)
    have ih0 := ih (j + 1) b (by omega) (by omega) hb
    by_cases hm : (trS (snOf t) sh).2.2.2 j = true
    · have ih1 := ih1 (fun k hk => by cases hk; exact ⟨hm, h1⟩)
      have pj := k_press hW ok nc hd hjJ (hh j hm)
      cases b with
      | none =>
        simp only [wkS, hm, true_and, true_or, if_true]
        refine r_iload_2 dX6_weakestJoint_5 ?_
        refine r_aload_0 dX6_weakestJoint_6 ?_
        refine r_getR (a := (w + 1)) dX6_weakestJoint_7 fl_X6_12 (hW.s 0 (by decide)) rfl ?_
        refine r_getI dX6_weakestJoint_10 fl_X6_214 (hW.s 1 (by decide)) ?_
        rw [nc.1]
        refine r_icmpN_ge 59 dX6_weakestJoint_13 (by decide) (by omega) (by omega) (fun c_13 => by omega) (fun c_13 => ?_)
        refine r_aload_0 dX6_weakestJoint_16 ?_
        refine r_getR (a := (w + 11)) dX6_weakestJoint_17 fl_X6_21 (hW.s 0 (by decide)) rfl ?_
        refine r_getI dX6_weakestJoint_20 fl_X6_211 (hW.s 11 (by decide)) ?_
        refine r_iload_2 dX6_weakestJoint_23 ?_
        refine r_cSN2 mX7_bit dX6_weakestJoint_24 ml_X6_197 mo_X7_bit (k_bit _ _ (j := j) (by omega)) (by decide) ?_
        rw [b2i_t (by rw [hbt]; exact hm)]
        refine r_iconst (v := 1) dX6_weakestJoint_27 (by decide) ?_
        refine r_icmp_ne 53 dX6_weakestJoint_28 (by decide) (fun c_28 => by exact absurd rfl c_28) (fun c_28 => ?_)
        refine r_iload_1 dX6_weakestJoint_31 ?_
        refine r_bipush (v := (-2)) dX6_weakestJoint_32 (by decide) ?_
        refine r_icmp_eq 51 dX6_weakestJoint_34 (by decide) (fun c_34 => ?_) (fun c_34 => by exact absurd rfl c_34)
        refine r_iload_2 dX6_weakestJoint_51 ?_
        refine r_istore_1 dX6_weakestJoint_52 ?_
        refine r_iincN_2 dX6_weakestJoint_53 ?_
        refine r_goto 5 dX6_weakestJoint_56 (by decide) ?_
        exact ih1
      | some k =>
        have hk := hb k rfl
        have hkJ := ok.met sh hk.1
        have pk := k_press hW ok nc hd hkJ (hh k hk.1)
        simp only [wkS, hm, true_and, reduceCtorEq, false_or, Option.getD_some]
        refine r_iload_2 dX6_weakestJoint_5 ?_
        refine r_aload_0 dX6_weakestJoint_6 ?_
        refine r_getR (a := (w + 1)) dX6_weakestJoint_7 fl_X6_12 (hW.s 0 (by decide)) rfl ?_
        refine r_getI dX6_weakestJoint_10 fl_X6_214 (hW.s 1 (by decide)) ?_
        rw [nc.1]
        refine r_icmpN_ge 59 dX6_weakestJoint_13 (by decide) (by omega) (by omega) (fun c_13 => by omega) (fun c_13 => ?_)
        refine r_aload_0 dX6_weakestJoint_16 ?_
        refine r_getR (a := (w + 11)) dX6_weakestJoint_17 fl_X6_21 (hW.s 0 (by decide)) rfl ?_
        refine r_getI dX6_weakestJoint_20 fl_X6_211 (hW.s 11 (by decide)) ?_
        refine r_iload_2 dX6_weakestJoint_23 ?_
        refine r_cSN2 mX7_bit dX6_weakestJoint_24 ml_X6_197 mo_X7_bit (k_bit _ _ (j := j) (by omega)) (by decide) ?_
        rw [b2i_t (by rw [hbt]; exact hm)]
        refine r_iconst (v := 1) dX6_weakestJoint_27 (by decide) ?_
        refine r_icmp_ne 53 dX6_weakestJoint_28 (by decide) (fun c_28 => by exact absurd rfl c_28) (fun c_28 => ?_)
        refine r_iload_1 dX6_weakestJoint_31 ?_
        refine r_bipush (v := (-2)) dX6_weakestJoint_32 (by decide) ?_
        refine r_icmp_eq 51 dX6_weakestJoint_34 (by decide) (fun c_34 => by exact absurd c_34 (nI_ne_m2 (by omega))) (fun c_34 => ?_)
        refine r_aload_0 dX6_weakestJoint_37 ?_
        refine r_iload_2 dX6_weakestJoint_38 ?_
        refine r_cV1 mX6_pressureAt dX6_weakestJoint_39 ml_X6_220 mo_X6_pressureAt (hW.s 0 (by decide)) pj (by decide) ?_
        refine r_aload_0 dX6_weakestJoint_42 ?_
        refine r_iload_1 dX6_weakestJoint_43 ?_
        refine r_cV1 mX6_pressureAt dX6_weakestJoint_44 ml_X6_220 mo_X6_pressureAt (hW.s 0 (by decide)) pk (by decide) ?_
        refine r_lif_ge 53 dX6_weakestJoint_47 dX6_weakestJoint_48 (by decide) (fun c_47 => ?_) (fun c_47 => ?_)
        · refine r_iincN_2 dX6_weakestJoint_53 ?_
          refine r_goto 5 dX6_weakestJoint_56 (by decide) ?_
          first | (rw [if_neg (Int64.not_lt.mpr c_47)]; exact ih0) | (rw [if_pos (Int64.not_le.mp c_47)]; exact ih1)
        · refine r_iload_2 dX6_weakestJoint_51 ?_
          refine r_istore_1 dX6_weakestJoint_52 ?_
          refine r_iincN_2 dX6_weakestJoint_53 ?_
          refine r_goto 5 dX6_weakestJoint_56 (by decide) ?_
          first | (rw [if_neg (Int64.not_lt.mpr c_47)]; exact ih0) | (rw [if_pos (Int64.not_le.mp c_47)]; exact ih1)
    · simp only [wkS, hm, false_and, if_false, Bool.false_eq_true]
      refine r_iload_2 dX6_weakestJoint_5 ?_
      refine r_aload_0 dX6_weakestJoint_6 ?_
      refine r_getR (a := (w + 1)) dX6_weakestJoint_7 fl_X6_12 (hW.s 0 (by decide)) rfl ?_
      refine r_getI dX6_weakestJoint_10 fl_X6_214 (hW.s 1 (by decide)) ?_
      rw [nc.1]
      refine r_icmpN_ge 59 dX6_weakestJoint_13 (by decide) (by omega) (by omega) (fun c_13 => by omega) (fun c_13 => ?_)
      refine r_aload_0 dX6_weakestJoint_16 ?_
      refine r_getR (a := (w + 11)) dX6_weakestJoint_17 fl_X6_21 (hW.s 0 (by decide)) rfl ?_
      refine r_getI dX6_weakestJoint_20 fl_X6_211 (hW.s 11 (by decide)) ?_
      refine r_iload_2 dX6_weakestJoint_23 ?_
      refine r_cSN2 mX7_bit dX6_weakestJoint_24 ml_X6_197 mo_X7_bit (k_bit _ _ (j := j) (by omega)) (by decide) ?_
      rw [b2i_f (by rw [hbt]; exact hm)]
      refine r_iconst (v := 1) dX6_weakestJoint_27 (by decide) ?_
      refine r_icmp_ne 53 dX6_weakestJoint_28 (by decide) (fun c_28 => ?_) (fun c_28 => by exact absurd c_28 (by decide))
      refine r_iincN_2 dX6_weakestJoint_53 ?_
      refine r_goto 5 dX6_weakestJoint_56 (by decide) ?_
      exact ih0
set_option maxRecDepth 100000 in
set_option maxHeartbeats 4000000 in
theorem k_weak {w : Nat} (hW : isW w) {t : NT} (ok : okT t) (sh : Int32) {h : PH} (nc : NetC h (w + 1) t) (tc : TreeC h (w + 11) (NT.fi t) (NT.se t) (trS (snOf t) sh)) (hd : FL) (hh : ∀ j, (trS (snOf t) sh).2.2.2 j = true → h.2 (w + 23) j = hd j) : ConF mX6_weakestJoint 2 [.ref w] h (some (.int (wI (wkA t (trS (snOf t) sh) hd)))) h := by
  refine Con.mk (by decide) ?_
  show RT _ _ 0 [some (.ref w), none, none] [] _ _
  have hJ := ok.1
  refine r_bipush (v := (-2)) dX6_weakestJoint_0 (by decide) ?_
  refine r_istore_1 dX6_weakestJoint_2 ?_
  refine r_iconst (v := nI 1) dX6_weakestJoint_3 (by decide) ?_
  refine r_istore_2 dX6_weakestJoint_4 ?_
  exact weak_loop hW ok sh nc tc hd hh (NT.J t - 1) 1 none (by omega) (Nat.le_refl _) (fun k hk => by cases hk)

theorem wkA_met {t : NT} {s : TS} {hd : FL} {k : Nat} (h : wkA t s hd = some k) : s.2.2.2 k = true ∧ 1 ≤ k := wkS_met _ 1 none (fun x hx => by cases hx) (Nat.le_refl _) k h
set_option maxRecDepth 100000 in
set_option maxHeartbeats 4000000 in
theorem k_least {w : Nat} (hW : isW w) {t : NT} (ok : okT t) (sh : Int32) {h : PH} (nc : NetC h (w + 1) t) (tc : TreeC h (w + 11) (NT.fi t) (NT.se t) (trS (snOf t) sh)) (hd : FL) (hh : ∀ j, (trS (snOf t) sh).2.2.2 j = true → h.2 (w + 23) j = hd j) : ConF mX6_leastPressure 3 [.ref w] h (some (.long (lpS t (trS (snOf t) sh) hd))) h := by
  refine Con.mk (by decide) ?_
  show RT _ _ 0 [some (.ref w), none] [] _ _
  have hJ9 := ok.2.1
  have hw := k_weak hW ok sh nc tc hd hh
  unfold lpS
  cases q : wkA t (trS (snOf t) sh) hd with
  | none =>
    rw [q] at hw
    refine r_aload_0 dX6_leastPressure_0 ?_
    refine r_cV0 mX6_weakestJoint dX6_leastPressure_1 ml_X6_223 mo_X6_weakestJoint (hW.s 0 (by decide)) hw (by decide) ?_
    refine r_istore_1 dX6_leastPressure_4 ?_
    refine r_iload_1 dX6_leastPressure_5 ?_
    refine r_bipush (v := (-2)) dX6_leastPressure_6 (by decide) ?_
    refine r_icmp_ne 17 dX6_leastPressure_8 (by decide) (fun c_8 => by exact absurd rfl c_8) (fun c_8 => ?_)
    refine r_ldc2 dX6_leastPressure_11 ks_X6_226 ?_
    refine r_goto 22 dX6_leastPressure_14 (by decide) ?_
    refine r_lret dX6_leastPressure_22 rfl ?_
    exact ⟨rfl, rfl⟩
  | some k =>
    rw [q] at hw
    have hk := wkA_met q
    have hkJ := ok.met sh hk.1
    have pk := k_press hW ok nc hd hkJ (hh k hk.1)
    refine r_aload_0 dX6_leastPressure_0 ?_
    refine r_cV0 mX6_weakestJoint dX6_leastPressure_1 ml_X6_223 mo_X6_weakestJoint (hW.s 0 (by decide)) hw (by decide) ?_
    refine r_istore_1 dX6_leastPressure_4 ?_
    refine r_iload_1 dX6_leastPressure_5 ?_
    refine r_bipush (v := (-2)) dX6_leastPressure_6 (by decide) ?_
    refine r_icmp_ne 17 dX6_leastPressure_8 (by decide) (fun c_8 => ?_) (fun c_8 => by exact absurd c_8 (nI_ne_m2 (by omega)))
    refine r_aload_0 dX6_leastPressure_17 ?_
    refine r_iload_1 dX6_leastPressure_18 ?_
    refine r_cV1 mX6_pressureAt dX6_leastPressure_19 ml_X6_220 mo_X6_pressureAt (hW.s 0 (by decide)) pk (by decide) ?_
    refine r_lret dX6_leastPressure_22 rfl ?_
    exact ⟨rfl, rfl⟩

set_option maxRecDepth 100000 in
set_option maxHeartbeats 4000000 in
theorem k_leastAll {w : Nat} (hW : isW w) {t : NT} (ok : okT t) (sh : Int32) {h : PH} (nc : NetC h (w + 1) t) (tc : TreeC h (w + 11) (NT.fi t) (NT.se t) (trS (snOf t) sh)) (hd : FL) (hh : ∀ j, (trS (snOf t) sh).2.2.2 j = true → h.2 (w + 23) j = hd j)  : ConF mX6_leastPressureOfAll 4 [.ref w] h (some (.long (lpA t (trS (snOf t) sh) hd))) h := by
  refine Con.mk (by decide) ?_
  show RT _ _ 0 [some (.ref w)] [] _ _
  refine r_aload_0 dX6_leastPressureOfAll_0 ?_
  refine r_cV0 mX6_dryJoints dX6_leastPressureOfAll_1 ml_X6_228 mo_X6_dryJoints (hW.s 0 (by decide)) (k_dry hW ok sh nc tc) (by decide) ?_
  refine r_if_ne 14 dX6_leastPressureOfAll_4 (by decide) (fun c_4 => ?_) (fun c_4 => ?_)
  · refine r_ldc2 dX6_leastPressureOfAll_14 ks_X6_226 ?_
    refine r_lret dX6_leastPressureOfAll_17 rfl ?_
    exact ⟨by unfold lpA; simp [c_4], rfl⟩
  · refine r_aload_0 dX6_leastPressureOfAll_7 ?_
    refine r_cV0 mX6_leastPressure dX6_leastPressureOfAll_8 ml_X6_231 mo_X6_leastPressure (hW.s 0 (by decide)) (k_least hW ok sh nc tc hd hh) (by decide) ?_
    refine r_goto 17 dX6_leastPressureOfAll_11 (by decide) ?_
    refine r_lret dX6_leastPressureOfAll_17 rfl ?_
    exact ⟨by unfold lpA; simp [c_4], rfl⟩

set_option maxRecDepth 100000 in
set_option maxHeartbeats 4000000 in
theorem great_loop {w : Nat} (hW : isW w) {t : NT} (ok : okT t) (sh : Int32) {h : PH} (nc : NetC h (w + 1) t) (rc : RingsC h (w + 17) (rgS (snOf t) sh)) (f : FL) (hf : ∀ e, e < 14 → h.2 (w + 22) e = f e) : ∀ (m k : Nat) (acc : Int64), k + m = (rgS (snOf t) sh).length → RT mX6_greatestRingSum 3 4 [some (.ref w), some (.long acc), none, some (.int (nI k))] [] h (fun a b => a = some (.long (gpS (lsT t) f ((rgS (snOf t) sh).drop k) acc)) ∧ b = h) := by
  have r14 : (rgS (snOf t) sh).length ≤ 14 := ok.ok.rings sh
  intro m
  induction m with
  | zero =>
    intro k acc hk
    refine r_iload_3 dX6_greatestRingSum_4 ?_
    refine r_aload_0 dX6_greatestRingSum_5 ?_
    refine r_getR (a := (w + 17)) dX6_greatestRingSum_6 fl_X6_28 (hW.s 0 (by decide)) rfl ?_
    refine r_getI dX6_greatestRingSum_9 fl_X6_124 (hW.s 17 (by decide)) ?_
    rw [rc.1]
    refine r_icmpN_ge 34 dX6_greatestRingSum_12 (by decide) (by omega) (by omega) (fun c_12 => ?_) (fun c_12 => by omega)
    refine r_lload_1 dX6_greatestRingSum_34 ?_
    refine r_lret dX6_greatestRingSum_35 rfl ?_
    exact ⟨by rw [List.drop_eq_nil_of_le (by omega)]; rfl, rfl⟩
  | succ m ih =>
    intro k acc hk
    have hkl : k < (rgS (snOf t) sh).length := by omega
    have hL : (rgS (snOf t) sh).getD k [] ∈ (rgS (snOf t) sh) := by rw [List.getD_eq_getElem?_getD, List.getElem?_eq_getElem hkl]; exact List.getElem_mem _
    have rk := ok.ok.ring sh hL
    have hm : ∀ q ∈ (rgS (snOf t) sh).getD k [], q.1 < NT.E t := fun q hq => by have := rk.2.2.2 q hq; simp only [gl, Bool.and_eq_true, decide_eq_true_eq] at this; exact this.1
    have hdrop : (rgS (snOf t) sh).drop k = (rgS (snOf t) sh).getD k [] :: (rgS (snOf t) sh).drop (k + 1) := by
      rw [List.drop_eq_getElem_cons hkl, List.getD_eq_getElem?_getD, List.getElem?_eq_getElem hkl]; rfl
    rw [hdrop]
    show RT _ _ _ _ _ _ (fun a b => a = some (.long (gpS (lsT t) f ((rgS (snOf t) sh).drop (k + 1)) (if acc < abS (rSum (lsT t) f ((rgS (snOf t) sh).getD k [])) then abS (rSum (lsT t) f ((rgS (snOf t) sh).getD k [])) else acc))) ∧ b = h)
    refine r_iload_3 dX6_greatestRingSum_4 ?_
    refine r_aload_0 dX6_greatestRingSum_5 ?_
    refine r_getR (a := (w + 17)) dX6_greatestRingSum_6 fl_X6_28 (hW.s 0 (by decide)) rfl ?_
    refine r_getI dX6_greatestRingSum_9 fl_X6_124 (hW.s 17 (by decide)) ?_
    rw [rc.1]
    refine r_icmpN_ge 34 dX6_greatestRingSum_12 (by decide) (by omega) (by omega) (fun c_12 => by omega) (fun c_12 => ?_)
    refine r_lload_1 dX6_greatestRingSum_15 ?_
    refine r_aload_0 dX6_greatestRingSum_16 ?_
    refine r_iload_3 dX6_greatestRingSum_17 ?_
    refine r_cV1 mX6_ringSum dX6_greatestRingSum_18 ml_X6_125 mo_X6_ringSum (hW.s 0 (by decide)) (k_ringSum hW ok nc (by omega) (rc.2 k hkl) rk.2.1 hm f hf) (by decide) ?_
    refine r_labs dX6_greatestRingSum_21 ml_X6_185 mo_Mabs (by decide) ?_
    rw [abs_eq]
    refine r_lmax dX6_greatestRingSum_24 ml_X6_145 mo_Mmax (by decide) ?_
    rw [max_cm]
    refine r_lstore_1 dX6_greatestRingSum_27 ?_
    refine r_iincN_3 dX6_greatestRingSum_28 ?_
    refine r_goto 4 dX6_greatestRingSum_31 (by decide) ?_
    exact ih (k + 1) _ (by omega)
set_option maxRecDepth 100000 in
set_option maxHeartbeats 4000000 in
theorem k_greatest {w : Nat} (hW : isW w) {t : NT} (ok : okT t) (sh : Int32) {h : PH} (nc : NetC h (w + 1) t) (rc : RingsC h (w + 17) (rgS (snOf t) sh)) (f : FL) (hf : ∀ e, e < 14 → h.2 (w + 22) e = f e) : ConF mX6_greatestRingSum 3 [.ref w] h (some (.long (gpS (lsT t) f (rgS (snOf t) sh) 0))) h := by
  refine Con.mk (by decide) ?_
  show RT _ _ 0 [some (.ref w), none, none, none] [] _ _
  refine r_lconst (v := 0) dX6_greatestRingSum_0 (by decide) ?_
  refine r_lstore_1 dX6_greatestRingSum_1 ?_
  refine r_iconst (v := nI 0) dX6_greatestRingSum_2 (by decide) ?_
  refine r_istore_3 dX6_greatestRingSum_3 ?_
  exact great_loop hW ok sh nc rc f hf (rgS (snOf t) sh).length 0 0 (by omega)

set_option maxRecDepth 100000 in
set_option maxHeartbeats 4000000 in
theorem pump_loop {w : Nat} (hW : isW w) {t : NT} (ok : okT t) {h : PH} (nc : NetC h (w + 1) t) (f : FL) (hf : ∀ e, e < 14 → h.2 (w + 22) e = f e) : ∀ (m e : Nat) (acc : Int64), e + m = NT.E t → RT mX6_pumpWork 2 4 [some (.ref w), some (.long acc), none, some (.int (nI e))] [] h (fun a b => a = some (.long (accL (fun e => if NT.kd t e = 2 then f e * liftS (nI (NT.lc t e)) (NT.lf t e) (f e) else 0) m e acc)) ∧ b = h) := by
  have hE14 := ok.2.2.1
  intro m
  induction m with
  | zero =>
    intro e acc he
    refine r_iload_3 dX6_pumpWork_4 ?_
    refine r_aload_0 dX6_pumpWork_5 ?_
    refine r_getR (a := (w + 1)) dX6_pumpWork_6 fl_X6_12 (hW.s 0 (by decide)) rfl ?_
    refine r_getI dX6_pumpWork_9 fl_X6_83 (hW.s 1 (by decide)) ?_
    rw [nc.2.1]
    refine r_icmpN_ge 58 dX6_pumpWork_12 (by decide) (by omega) (by omega) (fun c_12 => ?_) (fun c_12 => by omega)
    refine r_lload_1 dX6_pumpWork_58 ?_
    refine r_lret dX6_pumpWork_59 rfl ?_
    exact ⟨rfl, rfl⟩
  | succ m ih =>
    intro e acc he
    have hee : e < NT.E t := by omega
    obtain ⟨n1, n2, n3, n4, n5, n6⟩ := nc.2.2.2.2.2 e hee
    have ih' := ih (e + 1) (acc + (fun e => if NT.kd t e = 2 then f e * liftS (nI (NT.lc t e)) (NT.lf t e) (f e) else 0) e) (by omega)
    show RT _ _ _ _ _ _ (fun a b => a = some (.long (accL (fun e => if NT.kd t e = 2 then f e * liftS (nI (NT.lc t e)) (NT.lf t e) (f e) else 0) m (e + 1) (acc + (fun e => if NT.kd t e = 2 then f e * liftS (nI (NT.lc t e)) (NT.lf t e) (f e) else 0) e))) ∧ b = h)
    by_cases hp : NT.kd t e = 2
    · refine r_iload_3 dX6_pumpWork_4 ?_
      refine r_aload_0 dX6_pumpWork_5 ?_
      refine r_getR (a := (w + 1)) dX6_pumpWork_6 fl_X6_12 (hW.s 0 (by decide)) rfl ?_
      refine r_getI dX6_pumpWork_9 fl_X6_83 (hW.s 1 (by decide)) ?_
      rw [nc.2.1]
      refine r_icmpN_ge 58 dX6_pumpWork_12 (by decide) (by omega) (by omega) (fun c_12 => by omega) (fun c_12 => ?_)
      refine r_aload_0 dX6_pumpWork_15 ?_
      refine r_getR (a := (w + 1)) dX6_pumpWork_16 fl_X6_12 (hW.s 0 (by decide)) rfl ?_
      refine r_getR (a := (w + 1 + 6)) dX6_pumpWork_19 fl_X6_194 (hW.s 1 (by decide)) rfl ?_
      refine r_iload_3 dX6_pumpWork_22 ?_
      refine r_ialdN dX6_pumpWork_23 (hW.s 7 (by decide)) (by omega) ?_
      rw [n3]
      refine r_iconst (v := 2) dX6_pumpWork_24 (by decide) ?_
      refine r_icmp_ne 52 dX6_pumpWork_25 (by decide) (fun c_25 => by exact absurd hp c_25) (fun c_25 => ?_)
      refine r_lload_1 dX6_pumpWork_28 ?_
      refine r_aload_0 dX6_pumpWork_29 ?_
      refine r_getR (a := (w + 22)) dX6_pumpWork_30 fl_X6_32 (hW.s 0 (by decide)) rfl ?_
      refine r_iload_3 dX6_pumpWork_33 ?_
      refine r_laldN dX6_pumpWork_34 (hW.s 22 (by decide)) (by omega) ?_
      rw [hf e (by omega)]
      refine r_aload_0 dX6_pumpWork_35 ?_
      refine r_getR (a := (w + 1)) dX6_pumpWork_36 fl_X6_12 (hW.s 0 (by decide)) rfl ?_
      refine r_iload_3 dX6_pumpWork_39 ?_
      refine r_aload_0 dX6_pumpWork_40 ?_
      refine r_getR (a := (w + 22)) dX6_pumpWork_41 fl_X6_32 (hW.s 0 (by decide)) rfl ?_
      refine r_iload_3 dX6_pumpWork_44 ?_
      refine r_laldN dX6_pumpWork_45 (hW.s 22 (by decide)) (by omega) ?_
      rw [hf e (by omega)]
      refine r_cV2 mX2_lossBy dX6_pumpWork_46 ml_X6_176 mo_X2_lossBy (hW.s 1 (by decide)) (k_X2_lossBy hW.n ok nc hee _) (by decide) ?_
      refine r_lmul dX6_pumpWork_49 ?_
      refine r_lsub dX6_pumpWork_50 ?_
      rw [show acc - f e * lsT t e (f e) = acc + (fun e => if NT.kd t e = 2 then f e * liftS (nI (NT.lc t e)) (NT.lf t e) (f e) else 0) e by simp only [if_pos hp]; unfold lsT lossS; rw [if_pos hp, Int64.mul_neg, Int64.sub_eq_add_neg, Int64.neg_neg]]
      refine r_lstore_1 dX6_pumpWork_51 ?_
      refine r_iincN_3 dX6_pumpWork_52 ?_
      refine r_goto 4 dX6_pumpWork_55 (by decide) ?_
      exact ih'
    · refine r_iload_3 dX6_pumpWork_4 ?_
      refine r_aload_0 dX6_pumpWork_5 ?_
      refine r_getR (a := (w + 1)) dX6_pumpWork_6 fl_X6_12 (hW.s 0 (by decide)) rfl ?_
      refine r_getI dX6_pumpWork_9 fl_X6_83 (hW.s 1 (by decide)) ?_
      rw [nc.2.1]
      refine r_icmpN_ge 58 dX6_pumpWork_12 (by decide) (by omega) (by omega) (fun c_12 => by omega) (fun c_12 => ?_)
      refine r_aload_0 dX6_pumpWork_15 ?_
      refine r_getR (a := (w + 1)) dX6_pumpWork_16 fl_X6_12 (hW.s 0 (by decide)) rfl ?_
      refine r_getR (a := (w + 1 + 6)) dX6_pumpWork_19 fl_X6_194 (hW.s 1 (by decide)) rfl ?_
      refine r_iload_3 dX6_pumpWork_22 ?_
      refine r_ialdN dX6_pumpWork_23 (hW.s 7 (by decide)) (by omega) ?_
      rw [n3]
      refine r_iconst (v := 2) dX6_pumpWork_24 (by decide) ?_
      refine r_icmp_ne 52 dX6_pumpWork_25 (by decide) (fun c_25 => ?_) (fun c_25 => by exact absurd c_25 hp)
      refine r_iincN_3 dX6_pumpWork_52 ?_
      refine r_goto 4 dX6_pumpWork_55 (by decide) ?_
      simp only [if_neg hp, Int64.add_zero] at ih' ⊢
      exact ih'
set_option maxRecDepth 100000 in
set_option maxHeartbeats 4000000 in
theorem k_pump {w : Nat} (hW : isW w) {t : NT} (ok : okT t) {h : PH} (nc : NetC h (w + 1) t) (f : FL) (hf : ∀ e, e < 14 → h.2 (w + 22) e = f e) : ConF mX6_pumpWork 2 [.ref w] h (some (.long (pwS t f))) h := by
  refine Con.mk (by decide) ?_
  show RT _ _ 0 [some (.ref w), none, none, none] [] _ _
  refine r_lconst (v := 0) dX6_pumpWork_0 (by decide) ?_
  refine r_lstore_1 dX6_pumpWork_1 ?_
  refine r_iconst (v := nI 0) dX6_pumpWork_2 (by decide) ?_
  refine r_istore_3 dX6_pumpWork_3 ?_
  exact pump_loop hW ok nc f hf (NT.E t) 0 0 (by omega)

set_option maxRecDepth 100000 in
set_option maxHeartbeats 4000000 in
theorem left_loop {w : Nat} (hW : isW w) {t : NT} (ok : okT t) {h : PH} (nc : NetC h (w + 1) t) (f : FL) (hf : ∀ e, e < 14 → h.2 (w + 22) e = f e) {j : Nat} (hj : j < 9) : ∀ (m e : Nat) (acc : Int64), e + m = NT.E t → RT mX6_leftOverAt 2 34 [some (.ref w), some (.int (nI j)), some (.long acc), none, some (.int (nI e))] [] h (fun a b => a = some (.long (loS t f j m e acc)) ∧ b = h) := by
  have hE14 := ok.2.2.1
  intro m
  induction m with
  | zero =>
    intro e acc he
    refine r_iload_4 dX6_leftOverAt_34 ?_
    refine r_aload_0 dX6_leftOverAt_36 ?_
    refine r_getR (a := (w + 1)) dX6_leftOverAt_37 fl_X6_12 (hW.s 0 (by decide)) rfl ?_
    refine r_getI dX6_leftOverAt_40 fl_X6_83 (hW.s 1 (by decide)) ?_
    rw [nc.2.1]
    refine r_icmpN_ge 103 dX6_leftOverAt_43 (by decide) (by omega) (by omega) (fun c_43 => ?_) (fun c_43 => by omega)
    refine r_lload_2 dX6_leftOverAt_103 ?_
    refine r_lret dX6_leftOverAt_104 rfl ?_
    exact ⟨rfl, rfl⟩
  | succ m ih =>
    intro e acc he
    have hee : e < NT.E t := by omega
    obtain ⟨n1, n2, n3, n4, n5, n6⟩ := nc.2.2.2.2.2 e hee
    obtain ⟨ee1, ee2, ee3⟩ := ok.ends e hee
    simp only [loS]
    refine r_iload_4 dX6_leftOverAt_34 ?_
    refine r_aload_0 dX6_leftOverAt_36 ?_
    refine r_getR (a := (w + 1)) dX6_leftOverAt_37 fl_X6_12 (hW.s 0 (by decide)) rfl ?_
    refine r_getI dX6_leftOverAt_40 fl_X6_83 (hW.s 1 (by decide)) ?_
    rw [nc.2.1]
    refine r_icmpN_ge 103 dX6_leftOverAt_43 (by decide) (by omega) (by omega) (fun c_43 => by omega) (fun c_43 => ?_)
    refine r_aload_0 dX6_leftOverAt_46 ?_
    refine r_getR (a := (w + 1)) dX6_leftOverAt_47 fl_X6_12 (hW.s 0 (by decide)) rfl ?_
    refine r_getR (a := (w + 1 + 5)) dX6_leftOverAt_50 fl_X6_208 (hW.s 1 (by decide)) rfl ?_
    refine r_iload_4 dX6_leftOverAt_53 ?_
    refine r_ialdN dX6_leftOverAt_55 (hW.s 6 (by decide)) (by omega) ?_
    rw [n2]
    refine r_iload_1 dX6_leftOverAt_56 ?_
    refine r_icmpN_ne 73 dX6_leftOverAt_57 (by decide) (by omega) (by omega) (fun c_57 => ?_) (fun c_57 => ?_)
    · refine r_aload_0 dX6_leftOverAt_73 ?_
      refine r_getR (a := (w + 1)) dX6_leftOverAt_74 fl_X6_12 (hW.s 0 (by decide)) rfl ?_
      refine r_getR (a := (w + 1 + 4)) dX6_leftOverAt_77 fl_X6_205 (hW.s 1 (by decide)) rfl ?_
      refine r_iload_4 dX6_leftOverAt_80 ?_
      refine r_ialdN dX6_leftOverAt_82 (hW.s 5 (by decide)) (by omega) ?_
      rw [n1]
      refine r_iload_1 dX6_leftOverAt_83 ?_
      refine r_icmpN_ne 97 dX6_leftOverAt_84 (by decide) (by omega) (by omega) (fun c_84 => ?_) (fun c_84 => ?_)
      · refine r_iincN_4 dX6_leftOverAt_97 ?_
        refine r_goto 34 dX6_leftOverAt_100 (by decide) ?_
        first | (rw [if_pos c_57]; exact ih (e + 1) _ (by omega)) | (rw [if_neg c_57, if_pos c_84]; exact ih (e + 1) _ (by omega)) | (rw [if_neg c_57, if_neg c_84]; exact ih (e + 1) _ (by omega))
      · refine r_lload_2 dX6_leftOverAt_87 ?_
        refine r_aload_0 dX6_leftOverAt_88 ?_
        refine r_getR (a := (w + 22)) dX6_leftOverAt_89 fl_X6_32 (hW.s 0 (by decide)) rfl ?_
        refine r_iload_4 dX6_leftOverAt_92 ?_
        refine r_laldN dX6_leftOverAt_94 (hW.s 22 (by decide)) (by omega) ?_
        rw [hf e (by omega)]
        refine r_lsub dX6_leftOverAt_95 ?_
        refine r_lstore_2 dX6_leftOverAt_96 ?_
        refine r_iincN_4 dX6_leftOverAt_97 ?_
        refine r_goto 34 dX6_leftOverAt_100 (by decide) ?_
        first | (rw [if_pos c_57]; exact ih (e + 1) _ (by omega)) | (rw [if_neg c_57, if_pos c_84]; exact ih (e + 1) _ (by omega)) | (rw [if_neg c_57, if_neg c_84]; exact ih (e + 1) _ (by omega))
    · refine r_lload_2 dX6_leftOverAt_60 ?_
      refine r_aload_0 dX6_leftOverAt_61 ?_
      refine r_getR (a := (w + 22)) dX6_leftOverAt_62 fl_X6_32 (hW.s 0 (by decide)) rfl ?_
      refine r_iload_4 dX6_leftOverAt_65 ?_
      refine r_laldN dX6_leftOverAt_67 (hW.s 22 (by decide)) (by omega) ?_
      rw [hf e (by omega)]
      refine r_ladd dX6_leftOverAt_68 ?_
      refine r_lstore_2 dX6_leftOverAt_69 ?_
      refine r_goto 97 dX6_leftOverAt_70 (by decide) ?_
      refine r_iincN_4 dX6_leftOverAt_97 ?_
      refine r_goto 34 dX6_leftOverAt_100 (by decide) ?_
      first | (rw [if_pos c_57]; exact ih (e + 1) _ (by omega)) | (rw [if_neg c_57, if_pos c_84]; exact ih (e + 1) _ (by omega)) | (rw [if_neg c_57, if_neg c_84]; exact ih (e + 1) _ (by omega))
set_option maxRecDepth 100000 in
set_option maxHeartbeats 4000000 in
theorem k_left {w : Nat} (hW : isW w) {t : NT} (ok : okT t) (sh : Int32) {h : PH} (nc : NetC h (w + 1) t) (tc : TreeC h (w + 11) (NT.fi t) (NT.se t) (trS (snOf t) sh)) (f : FL) (hf : ∀ e, e < 14 → h.2 (w + 22) e = f e) {j : Nat} (hj : j < NT.J t) : ConF mX6_leftOverAt 2 [.ref w, .int (nI j)] h (some (.long (loS t f j (NT.E t) 0 (if (trS (snOf t) sh).2.2.2 j = true then (-(NT.dr t j)).toInt64 else 0)))) h := by
  refine Con.mk (by decide) ?_
  show RT _ _ 0 [some (.ref w), some (.int (nI j)), none, none, none] [] _ _
  have hJ9 := ok.2.1
  have hbt := tc.1 j (by omega)
  by_cases hm : (trS (snOf t) sh).2.2.2 j = true
  · refine r_aload_0 dX6_leftOverAt_0 ?_
    refine r_getR (a := (w + 11)) dX6_leftOverAt_1 fl_X6_21 (hW.s 0 (by decide)) rfl ?_
    refine r_getI dX6_leftOverAt_4 fl_X6_211 (hW.s 11 (by decide)) ?_
    refine r_iload_1 dX6_leftOverAt_7 ?_
    refine r_cSN2 mX7_bit dX6_leftOverAt_8 ml_X6_197 mo_X7_bit (k_bit _ _ (j := j) (by omega)) (by decide) ?_
    rw [b2i_t (by rw [hbt]; exact hm)]
    refine r_iconst (v := 1) dX6_leftOverAt_11 (by decide) ?_
    refine r_icmp_ne 29 dX6_leftOverAt_12 (by decide) (fun c_12 => by exact absurd rfl c_12) (fun c_12 => ?_)
    refine r_aload_0 dX6_leftOverAt_15 ?_
    refine r_getR (a := (w + 1)) dX6_leftOverAt_16 fl_X6_12 (hW.s 0 (by decide)) rfl ?_
    refine r_getR (a := (w + 1 + 2)) dX6_leftOverAt_19 fl_X6_109 (hW.s 1 (by decide)) rfl ?_
    refine r_iload_1 dX6_leftOverAt_22 ?_
    refine r_ialdN dX6_leftOverAt_23 (hW.s 3 (by decide)) (by omega) ?_
    rw [(nc.2.2.2.2.1 _ hj).1]
    refine r_ineg dX6_leftOverAt_24 ?_
    refine r_i2l dX6_leftOverAt_25 ?_
    refine r_goto 30 dX6_leftOverAt_26 (by decide) ?_
    refine r_lstore_2 dX6_leftOverAt_30 ?_
    refine r_iconst (v := nI 0) dX6_leftOverAt_31 (by decide) ?_
    refine r_istore_4 dX6_leftOverAt_32 ?_
    rw [if_pos hm]
    exact left_loop hW ok nc f hf (by omega) (NT.E t) 0 _ (by omega)
  · refine r_aload_0 dX6_leftOverAt_0 ?_
    refine r_getR (a := (w + 11)) dX6_leftOverAt_1 fl_X6_21 (hW.s 0 (by decide)) rfl ?_
    refine r_getI dX6_leftOverAt_4 fl_X6_211 (hW.s 11 (by decide)) ?_
    refine r_iload_1 dX6_leftOverAt_7 ?_
    refine r_cSN2 mX7_bit dX6_leftOverAt_8 ml_X6_197 mo_X7_bit (k_bit _ _ (j := j) (by omega)) (by decide) ?_
    rw [b2i_f (by rw [hbt]; exact hm)]
    refine r_iconst (v := 1) dX6_leftOverAt_11 (by decide) ?_
    refine r_icmp_ne 29 dX6_leftOverAt_12 (by decide) (fun c_12 => ?_) (fun c_12 => by exact absurd c_12 (by decide))
    refine r_lconst (v := 0) dX6_leftOverAt_29 (by decide) ?_
    refine r_lstore_2 dX6_leftOverAt_30 ?_
    refine r_iconst (v := nI 0) dX6_leftOverAt_31 (by decide) ?_
    refine r_istore_4 dX6_leftOverAt_32 ?_
    rw [if_neg hm]
    exact left_loop hW ok nc f hf (by omega) (NT.E t) 0 _ (by omega)
set_option maxRecDepth 100000 in
set_option maxHeartbeats 4000000 in
theorem eat_loop {o : Nat} (hN : isN o) {h : PH} {t : NT} (ok : okT t) (nc : NetC h o t) {j : Nat} (hj : j < 9) : ∀ (m e : Nat) (acc : Int32), e + m = NT.E t → RT mX2_edgesAt 1 4 [some (.ref o), some (.int (nI j)), some (.int acc), some (.int (nI e))] [] h (fun a b => a = some (.int (eaS t j m e acc)) ∧ b = h) := by
  have hE14 := ok.2.2.1
  intro m
  induction m with
  | zero =>
    intro e acc he
    refine r_iload_3 dX2_edgesAt_4 ?_
    refine r_aload_0 dX2_edgesAt_5 ?_
    refine r_getI dX2_edgesAt_6 fl_X2_44 (hN.s 0 (by decide)) ?_
    rw [nc.2.1]
    refine r_icmpN_ge 44 dX2_edgesAt_9 (by decide) (by omega) (by omega) (fun c_9 => ?_) (fun c_9 => by omega)
    refine r_iload_2 dX2_edgesAt_44 ?_
    refine r_iret dX2_edgesAt_45 rfl ?_
    exact ⟨rfl, rfl⟩
  | succ m ih =>
    intro e acc he
    have hee : e < NT.E t := by omega
    obtain ⟨n1, n2, n3, n4, n5, n6⟩ := nc.2.2.2.2.2 e hee
    obtain ⟨ee1, ee2, ee3⟩ := ok.ends e hee
    simp only [eaS]
    refine r_iload_3 dX2_edgesAt_4 ?_
    refine r_aload_0 dX2_edgesAt_5 ?_
    refine r_getI dX2_edgesAt_6 fl_X2_44 (hN.s 0 (by decide)) ?_
    rw [nc.2.1]
    refine r_icmpN_ge 44 dX2_edgesAt_9 (by decide) (by omega) (by omega) (fun c_9 => by omega) (fun c_9 => ?_)
    refine r_aload_0 dX2_edgesAt_12 ?_
    refine r_getR (a := (o + 4)) dX2_edgesAt_13 fl_X2_22 (hN.s 0 (by decide)) rfl ?_
    refine r_iload_3 dX2_edgesAt_16 ?_
    refine r_ialdN dX2_edgesAt_17 (hN.s 4 (by decide)) (by omega) ?_
    rw [n1]
    refine r_iload_1 dX2_edgesAt_18 ?_
    refine r_icmpN_eq 32 dX2_edgesAt_19 (by decide) (by omega) (by omega) (fun c_19 => ?_) (fun c_19 => ?_)
    · refine r_iload_2 dX2_edgesAt_32 ?_
      refine r_iconst (v := 1) dX2_edgesAt_33 (by decide) ?_
      refine r_iload_3 dX2_edgesAt_34 ?_
      refine r_ishl dX2_edgesAt_35 ?_
      refine r_ior dX2_edgesAt_36 ?_
      refine r_istore_2 dX2_edgesAt_37 ?_
      refine r_iincN_3 dX2_edgesAt_38 ?_
      refine r_goto 4 dX2_edgesAt_41 (by decide) ?_
      first | (rw [if_pos (Or.inl c_19)]; exact ih (e + 1) _ (by omega)) | (rw [if_pos (Or.inr c_29)]; exact ih (e + 1) _ (by omega)) | (rw [if_neg (fun q => q.elim c_19 c_29)]; exact ih (e + 1) _ (by omega))
    · refine r_aload_0 dX2_edgesAt_22 ?_
      refine r_getR (a := (o + 5)) dX2_edgesAt_23 fl_X2_25 (hN.s 0 (by decide)) rfl ?_
      refine r_iload_3 dX2_edgesAt_26 ?_
      refine r_ialdN dX2_edgesAt_27 (hN.s 5 (by decide)) (by omega) ?_
      rw [n2]
      refine r_iload_1 dX2_edgesAt_28 ?_
      refine r_icmpN_ne 38 dX2_edgesAt_29 (by decide) (by omega) (by omega) (fun c_29 => ?_) (fun c_29 => ?_)
      · refine r_iincN_3 dX2_edgesAt_38 ?_
        refine r_goto 4 dX2_edgesAt_41 (by decide) ?_
        first | (rw [if_pos (Or.inl c_19)]; exact ih (e + 1) _ (by omega)) | (rw [if_pos (Or.inr c_29)]; exact ih (e + 1) _ (by omega)) | (rw [if_neg (fun q => q.elim c_19 c_29)]; exact ih (e + 1) _ (by omega))
      · refine r_iload_2 dX2_edgesAt_32 ?_
        refine r_iconst (v := 1) dX2_edgesAt_33 (by decide) ?_
        refine r_iload_3 dX2_edgesAt_34 ?_
        refine r_ishl dX2_edgesAt_35 ?_
        refine r_ior dX2_edgesAt_36 ?_
        refine r_istore_2 dX2_edgesAt_37 ?_
        refine r_iincN_3 dX2_edgesAt_38 ?_
        refine r_goto 4 dX2_edgesAt_41 (by decide) ?_
        first | (rw [if_pos (Or.inl c_19)]; exact ih (e + 1) _ (by omega)) | (rw [if_pos (Or.inr c_29)]; exact ih (e + 1) _ (by omega)) | (rw [if_neg (fun q => q.elim c_19 c_29)]; exact ih (e + 1) _ (by omega))
set_option maxRecDepth 100000 in
set_option maxHeartbeats 4000000 in
theorem k_edgesAt {o : Nat} (hN : isN o) {h : PH} {t : NT} (ok : okT t) (nc : NetC h o t) {j : Nat} (hj : j < 9) : ConF mX2_edgesAt 1 [.ref o, .int (nI j)] h (some (.int (eaS t j (NT.E t) 0 0))) h := by
  refine Con.mk (by decide) ?_
  show RT _ _ 0 [some (.ref o), some (.int (nI j)), none, none] [] _ _
  refine r_iconst (v := 0) dX2_edgesAt_0 (by decide) ?_
  refine r_istore_2 dX2_edgesAt_1 ?_
  refine r_iconst (v := nI 0) dX2_edgesAt_2 (by decide) ?_
  refine r_istore_3 dX2_edgesAt_3 ?_
  exact eat_loop hN ok nc hj (NT.E t) 0 0 (by omega)

set_option maxRecDepth 100000 in
set_option maxHeartbeats 4000000 in
theorem k_member {r : Nat} (hR : isR r) {h : PH} {k : Nat} (hk : k < 14) {L : RG} (ra : RAt h r k L) (h9 : L.length ≤ 9) {n : Nat} (hn : n < 2 ^ 31) : ConF mX4_member 1 [.ref r, .int (nI k), .int (nI n)] h (some (.int (if n < L.length then nI (gq L n).1 else -2))) h := by
  refine Con.mk (by decide) ?_
  show RT _ _ 0 [some (.ref r), some (.int (nI k)), some (.int (nI n))] [] _ _
  refine r_iload_2 dX4_member_0 ?_
  refine r_aload_0 dX4_member_1 ?_
  refine r_getR (a := (r + 1)) dX4_member_2 fl_X4_9 (hR.s 0 (by decide)) rfl ?_
  refine r_iload_1 dX4_member_5 ?_
  refine r_ialdN dX4_member_6 (hR.s 1 (by decide)) (by omega) ?_
  rw [ra.1]
  refine r_icmpN_ge 24 dX4_member_7 (by decide) (by omega) (by omega) (fun c_7 => ?_) (fun c_7 => ?_)
  · refine r_bipush (v := (-2)) dX4_member_24 (by decide) ?_
    refine r_iret dX4_member_26 rfl ?_
    exact ⟨by first | (rw [if_neg (by omega)]; done) | (rw [if_pos (by omega)]; done), rfl⟩
  · refine r_aload_0 dX4_member_10 ?_
    refine r_getR (a := (r + 2)) dX4_member_11 fl_X4_15 (hR.s 0 (by decide)) rfl ?_
    refine r_iload_1 dX4_member_14 ?_
    refine r_bipush (v := nI 9) dX4_member_15 (by decide) ?_
    refine r_imul dX4_member_17 ?_
    refine r_iload_2 dX4_member_18 ?_
    refine r_iadd dX4_member_19 ?_
    rw [pk_mul, nI_add]
    refine r_ialdN dX4_member_20 (hR.s 2 (by decide)) (by omega) ?_
    rw [Nat.mul_comm k 9, (ra.2 n (by omega)).1]
    refine r_goto 26 dX4_member_21 (by decide) ?_
    refine r_iret dX4_member_26 rfl ?_
    exact ⟨by first | (rw [if_neg (by omega)]; done) | (rw [if_pos (by omega)]; done), rfl⟩

set_option maxRecDepth 100000 in
set_option maxHeartbeats 4000000 in
theorem thr_in {r : Nat} (hR : isR r) {h : PH} {e : Nat} (he : e < 14) {k : Nat} (hk : k < 14) {L : RG} (ra : RAt h r k L) (h9 : L.length ≤ 9) (hm : ∀ q ∈ L, q.1 < 14) {Q : Option Value → PH → Prop} : ∀ (m j : Nat) (acc : Int32), j + m = L.length → RT mX4_countThrough 1 51 [some (.ref r), some (.int (nI e)), some (.int ((L.drop j).foldl (fun a q => if q.1 = e then a + 1 else a) acc)), some (.int (nI k)), none] [] h Q → RT mX4_countThrough 1 15 [some (.ref r), some (.int (nI e)), some (.int acc), some (.int (nI k)), some (.int (nI j))] [] h Q := by
  intro m
  induction m with
  | zero =>
    intro j acc hj K
    rw [List.drop_eq_nil_of_le (by omega)] at K
    refine r_iload_4 dX4_countThrough_15 ?_
    refine r_aload_0 dX4_countThrough_17 ?_
    refine r_getR (a := (r + 1)) dX4_countThrough_18 fl_X4_9 (hR.s 0 (by decide)) rfl ?_
    refine r_iload_3 dX4_countThrough_21 ?_
    refine r_ialdN dX4_countThrough_22 (hR.s 1 (by decide)) (by omega) ?_
    rw [ra.1]
    refine r_icmpN_ge 51 dX4_countThrough_23 (by decide) (by omega) (by omega) (fun c_23 => ?_) (fun c_23 => by omega)
    refine RT.sub (lv' := [some (.ref r), some (.int (nI e)), some (.int acc), some (.int (nI k)), none]) (by simp [lsub]) ?_
    exact K
  | succ m ih =>
    intro j acc hj K
    have hjl : j < L.length := by omega
    have hr := ra.2 j hjl
    have hq := hm _ (gq_mem hjl)
    rw [drop_gq hjl, List.foldl_cons] at K
    refine r_iload_4 dX4_countThrough_15 ?_
    refine r_aload_0 dX4_countThrough_17 ?_
    refine r_getR (a := (r + 1)) dX4_countThrough_18 fl_X4_9 (hR.s 0 (by decide)) rfl ?_
    refine r_iload_3 dX4_countThrough_21 ?_
    refine r_ialdN dX4_countThrough_22 (hR.s 1 (by decide)) (by omega) ?_
    rw [ra.1]
    refine r_icmpN_ge 51 dX4_countThrough_23 (by decide) (by omega) (by omega) (fun c_23 => by omega) (fun c_23 => ?_)
    refine r_aload_0 dX4_countThrough_26 ?_
    refine r_getR (a := (r + 2)) dX4_countThrough_27 fl_X4_15 (hR.s 0 (by decide)) rfl ?_
    refine r_iload_3 dX4_countThrough_30 ?_
    refine r_bipush (v := nI 9) dX4_countThrough_31 (by decide) ?_
    refine r_imul dX4_countThrough_33 ?_
    refine r_iload_4 dX4_countThrough_34 ?_
    refine r_iadd dX4_countThrough_36 ?_
    rw [pk_mul, nI_add, Nat.mul_comm k 9]
    refine r_ialdN dX4_countThrough_37 (hR.s 2 (by decide)) (by omega) ?_
    rw [hr.1]
    refine r_iload_1 dX4_countThrough_38 ?_
    refine r_icmpN_ne 45 dX4_countThrough_39 (by decide) (by omega) (by omega) (fun c_39 => ?_) (fun c_39 => ?_)
    · refine r_iincN_4 dX4_countThrough_45 ?_
      refine r_goto 15 dX4_countThrough_48 (by decide) ?_
      first | (rw [if_pos c_39] at K; exact ih (j + 1) _ (by omega) K) | (rw [if_neg c_39] at K; exact ih (j + 1) _ (by omega) K)
    · refine r_iinc_2 (v := 1) dX4_countThrough_42 (by decide) ?_
      refine r_iincN_4 dX4_countThrough_45 ?_
      refine r_goto 15 dX4_countThrough_48 (by decide) ?_
      first | (rw [if_pos c_39] at K; exact ih (j + 1) _ (by omega) K) | (rw [if_neg c_39] at K; exact ih (j + 1) _ (by omega) K)
set_option maxRecDepth 100000 in
set_option maxHeartbeats 4000000 in
theorem thr_out {r : Nat} (hR : isR r) {h : PH} {e : Nat} (he : e < 14) {R : List RG} (rc : RingsC h r R) (h14 : R.length ≤ 14) (h9 : ∀ L ∈ R, L.length ≤ 9) (hm : ∀ L ∈ R, ∀ q ∈ L, q.1 < 14) : ∀ (m k : Nat) (acc : Int32), k + m = R.length → RT mX4_countThrough 1 4 [some (.ref r), some (.int (nI e)), some (.int acc), some (.int (nI k)), none] [] h (fun a b => a = some (.int (ctS e (R.drop k) acc)) ∧ b = h) := by
  intro m
  induction m with
  | zero =>
    intro k acc hk
    refine r_iload_3 dX4_countThrough_4 ?_
    refine r_aload_0 dX4_countThrough_5 ?_
    refine r_getI dX4_countThrough_6 fl_X4_24 (hR.s 0 (by decide)) ?_
    rw [rc.1]
    refine r_icmpN_ge 57 dX4_countThrough_9 (by decide) (by omega) (by omega) (fun c_9 => ?_) (fun c_9 => by omega)
    refine r_iload_2 dX4_countThrough_57 ?_
    refine r_iret dX4_countThrough_58 rfl ?_
    exact ⟨by rw [List.drop_eq_nil_of_le (by omega)]; rfl, rfl⟩
  | succ m ih =>
    intro k acc hk
    have hkl : k < R.length := by omega
    have hL : R.getD k [] ∈ R := by rw [List.getD_eq_getElem?_getD, List.getElem?_eq_getElem hkl]; exact List.getElem_mem _
    have hdrop : R.drop k = R.getD k [] :: R.drop (k + 1) := by
      rw [List.drop_eq_getElem_cons hkl, List.getD_eq_getElem?_getD, List.getElem?_eq_getElem hkl]; rfl
    rw [hdrop]
    show RT _ _ _ _ _ _ (fun a b => a = some (.int (ctS e (R.drop (k + 1)) ((R.getD k []).foldl (fun a q => if q.1 = e then a + 1 else a) acc))) ∧ b = h)
    refine r_iload_3 dX4_countThrough_4 ?_
    refine r_aload_0 dX4_countThrough_5 ?_
    refine r_getI dX4_countThrough_6 fl_X4_24 (hR.s 0 (by decide)) ?_
    rw [rc.1]
    refine r_icmpN_ge 57 dX4_countThrough_9 (by decide) (by omega) (by omega) (fun c_9 => by omega) (fun c_9 => ?_)
    refine r_iconst (v := nI 0) dX4_countThrough_12 (by decide) ?_
    refine r_istore_4 dX4_countThrough_13 ?_
    refine thr_in hR he (by omega) (rc.2 k hkl) (h9 _ hL) (hm _ hL) (R.getD k []).length 0 acc (by omega) ?_
    rw [List.drop_zero]
    refine r_iincN_3 dX4_countThrough_51 ?_
    refine r_goto 4 dX4_countThrough_54 (by decide) ?_
    exact ih (k + 1) _ (by omega)
set_option maxRecDepth 100000 in
set_option maxHeartbeats 4000000 in
theorem k_through {r : Nat} (hR : isR r) {h : PH} {e : Nat} (he : e < 14) {R : List RG} (rc : RingsC h r R) (h14 : R.length ≤ 14) (h9 : ∀ L ∈ R, L.length ≤ 9) (hm : ∀ L ∈ R, ∀ q ∈ L, q.1 < 14) : ConF mX4_countThrough 1 [.ref r, .int (nI e)] h (some (.int (ctS e R 0))) h := by
  refine Con.mk (by decide) ?_
  show RT _ _ 0 [some (.ref r), some (.int (nI e)), none, none, none] [] _ _
  refine r_iconst (v := 0) dX4_countThrough_0 (by decide) ?_
  refine r_istore_2 dX4_countThrough_1 ?_
  refine r_iconst (v := nI 0) dX4_countThrough_2 (by decide) ?_
  refine r_istore_3 dX4_countThrough_3 ?_
  exact thr_out hR he rc h14 h9 hm R.length 0 0 (by omega)

set_option maxRecDepth 100000 in
set_option maxHeartbeats 4000000 in
theorem bh_in {a : Nat} (hT : isT a) {E : Nat} {fi se : Nat → Nat} {op : Nat → Bool} {s : TS} (tw : TW E fi se op s) (hE : endsOK E fi se) (hE14 : E ≤ 14) {h : PH} (tc : TreeC h a fi se s) {j : Nat} (hj : j < 9) {i : Nat} {Q : Option Value → PH → Prop} : ∀ (n v : Nat) (acc : Int32), s.2.2.2 v = true → dpj fi se s v = n → RT mX5_countBehind 1 58 [some (.ref a), some (.int (nI j)), some (.int (acc + nI (abv fi se s j n v))), some (.int (nI i)), none, none] [] h Q → RT mX5_countBehind 1 29 [some (.ref a), some (.int (nI j)), some (.int acc), some (.int (nI i)), some (.int (nI v)), some (.int (nI n))] [] h Q := by
  intro n
  induction n with
  | zero =>
    intro v acc hv hd K
    rw [show acc + nI (abv fi se s j 0 v) = acc from Int32.add_zero acc] at K
    refine r_iload_5 dX5_countBehind_29 ?_
    refine r_if_le 58 dX5_countBehind_31 (by decide) (fun c_31 => ?_) (fun c_31 => by exact absurd (show nI 0 ≤ 0 by decide) c_31)
    refine RT.sub (lv' := [some (.ref a), some (.int (nI j)), some (.int acc), some (.int (nI i)), none, none]) (by simp [lsub]) ?_
    exact K
  | succ n ih =>
    intro v acc hv hd K
    have h0 : v ≠ 0 := fun q => by rw [q, TW.dp0] at hd; omega
    have u := tw.upm hE hE14 hv h0
    have d8 := tw.dp8 hE hE14 hv
    have v9 := tw.lt9 hv
    have u9 := tw.lt9 u.1
    have ta := tc.at tw hE hE14 hv h0
    have e1 : abv fi se s j (n + 1) v = (if upj fi se s v = j then 1 else 0) + abv fi se s j n (upj fi se s v) := rfl
    rw [e1] at K
    refine r_iload_5 dX5_countBehind_29 ?_
    refine r_if_le 58 dX5_countBehind_31 (by decide) (fun c_31 => by exact absurd c_31 (nI_nle (by omega) (by omega))) (fun c_31 => ?_)
    refine r_aload_0 dX5_countBehind_34 ?_
    refine r_getR (a := (a + 2)) dX5_countBehind_35 fl_X5_15 (hT.s 0 (by decide)) rfl ?_
    refine r_iload_4 dX5_countBehind_38 ?_
    refine r_ialdN dX5_countBehind_40 (hT.s 2 (by decide)) (by omega) ?_
    rw [ta.2.1]
    refine r_istore_4 dX5_countBehind_41 ?_
    refine r_iload_4 dX5_countBehind_43 ?_
    refine r_iload_1 dX5_countBehind_45 ?_
    refine r_icmpN_ne 52 dX5_countBehind_46 (by decide) (by omega) (by omega) (fun c_46 => ?_) (fun c_46 => ?_)
    · refine r_idecN_5 dX5_countBehind_52 ?_
      refine r_goto 29 dX5_countBehind_55 (by decide) ?_
      first
      | (rw [if_pos c_46, show acc + nI (1 + abv fi se s j n (upj fi se s v)) = acc + 1 + nI (abv fi se s j n (upj fi se s v)) by rw [← nI_add 1, show nI 1 = 1 from rfl, Int32.add_assoc]] at K; exact ih _ _ u.1 (by omega) K)
      | (rw [if_neg c_46, Nat.zero_add] at K; exact ih _ _ u.1 (by omega) K)
    · refine r_iinc_2 (v := 1) dX5_countBehind_49 (by decide) ?_
      refine r_idecN_5 dX5_countBehind_52 ?_
      refine r_goto 29 dX5_countBehind_55 (by decide) ?_
      first
      | (rw [if_pos c_46, show acc + nI (1 + abv fi se s j n (upj fi se s v)) = acc + 1 + nI (abv fi se s j n (upj fi se s v)) by rw [← nI_add 1, show nI 1 = 1 from rfl, Int32.add_assoc]] at K; exact ih _ _ u.1 (by omega) K)
      | (rw [if_neg c_46, Nat.zero_add] at K; exact ih _ _ u.1 (by omega) K)
set_option maxRecDepth 100000 in
set_option maxHeartbeats 4000000 in
theorem bh_out {a : Nat} (hT : isT a) {E : Nat} {fi se : Nat → Nat} {op : Nat → Bool} {s : TS} (tw : TW E fi se op s) (hE : endsOK E fi se) (hE14 : E ≤ 14) {h : PH} (tc : TreeC h a fi se s) {j : Nat} (hj : j < 9) : ∀ (m i : Nat) (acc : Int32), i + m = s.1 → RT mX5_countBehind 1 4 [some (.ref a), some (.int (nI j)), some (.int acc), some (.int (nI i)), none, none] [] h (fun x b => x = some (.int (accI (fun i => nI (abv fi se s j (dpj fi se s (s.2.1 i)) (s.2.1 i))) m i acc)) ∧ b = h) := by
  have h9 := tw.le
  intro m
  induction m with
  | zero =>
    intro i acc hi
    refine r_iload_3 dX5_countBehind_4 ?_
    refine r_aload_0 dX5_countBehind_5 ?_
    refine r_getI dX5_countBehind_6 fl_X5_40 (hT.s 0 (by decide)) ?_
    rw [tc.2.2.1]
    refine r_icmpN_ge 64 dX5_countBehind_9 (by decide) (by omega) (by omega) (fun c_9 => ?_) (fun c_9 => by omega)
    refine r_iload_2 dX5_countBehind_64 ?_
    refine r_iret dX5_countBehind_65 rfl ?_
    exact ⟨rfl, rfl⟩
  | succ m ih =>
    intro i acc hi
    have hi1 : i < s.1 := by omega
    have hv := (tw.1 i hi1).2
    have v9 := (tw.1 i hi1).1
    refine r_iload_3 dX5_countBehind_4 ?_
    refine r_aload_0 dX5_countBehind_5 ?_
    refine r_getI dX5_countBehind_6 fl_X5_40 (hT.s 0 (by decide)) ?_
    rw [tc.2.2.1]
    refine r_icmpN_ge 64 dX5_countBehind_9 (by decide) (by omega) (by omega) (fun c_9 => by omega) (fun c_9 => ?_)
    refine r_aload_0 dX5_countBehind_12 ?_
    refine r_getR (a := (a + 1)) dX5_countBehind_13 fl_X5_9 (hT.s 0 (by decide)) rfl ?_
    refine r_iload_3 dX5_countBehind_16 ?_
    refine r_ialdN dX5_countBehind_17 (hT.s 1 (by decide)) (by omega) ?_
    rw [tc.2.2.2.1 i hi1]
    refine r_istore_4 dX5_countBehind_18 ?_
    refine r_aload_0 dX5_countBehind_20 ?_
    refine r_getR (a := (a + 5)) dX5_countBehind_21 fl_X5_24 (hT.s 0 (by decide)) rfl ?_
    refine r_iload_4 dX5_countBehind_24 ?_
    refine r_ialdN dX5_countBehind_26 (hT.s 5 (by decide)) (by omega) ?_
    rw [tc.dp tw hv]
    refine r_istore_5 dX5_countBehind_27 ?_
    refine bh_in hT tw hE hE14 tc hj (dpj fi se s (s.2.1 i)) (s.2.1 i) acc hv rfl ?_
    refine r_iincN_3 dX5_countBehind_58 ?_
    refine r_goto 4 dX5_countBehind_61 (by decide) ?_
    exact ih (i + 1) _ (by omega)
set_option maxRecDepth 100000 in
set_option maxHeartbeats 4000000 in
theorem k_behind {a : Nat} (hT : isT a) {E : Nat} {fi se : Nat → Nat} {op : Nat → Bool} {s : TS} (tw : TW E fi se op s) (hE : endsOK E fi se) (hE14 : E ≤ 14) {h : PH} (tc : TreeC h a fi se s) {j : Nat} (hj : j < 9) : ConF mX5_countBehind 1 [.ref a, .int (nI j)] h (some (.int (bhS fi se s j))) h := by
  refine Con.mk (by decide) ?_
  show RT _ _ 0 [some (.ref a), some (.int (nI j)), none, none, none, none] [] _ _
  refine r_iconst (v := 0) dX5_countBehind_0 (by decide) ?_
  refine r_istore_2 dX5_countBehind_1 ?_
  refine r_iconst (v := nI 0) dX5_countBehind_2 (by decide) ?_
  refine r_istore_3 dX5_countBehind_3 ?_
  exact bh_out hT tw hE hE14 tc hj s.1 0 0 (by omega)

