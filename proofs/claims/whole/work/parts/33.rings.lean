/-! ===== the class: Rings.add, followTree, find ===== -/
theorem RAt.ext {h h' : PH} {r c : Nat} {L : RG} (a : RAt h r c L) (h1 : h'.1 (r + 1) = h.1 (r + 1)) (h2 : h'.1 (r + 2) = h.1 (r + 2)) (h3 : h'.1 (r + 3) = h.1 (r + 3)) : RAt h' r c L := by
  unfold RAt; rw [h1, h2, h3]; exact a
set_option maxRecDepth 100000 in
set_option maxHeartbeats 4000000 in
theorem k_add {r : Nat} (hR : isR r) {h : PH} {c : Nat} (hc : c < 14) {L : RG} (hr0 : h.1 r 0 = nI c) (ra : RAt h r c L) (hl : L.length < 9) {e : Nat} (he : e < 2 ^ 31) (wy : Int32) : Con mX4_add 1 [.ref r, .int (nI e), .int wy] h (fun a h' => a = none ∧ (RAt h' r c (L ++ [(e, wy)]) ∧ RKp h h' r c ∧ h'.1 (r + 4) = h.1 (r + 4) ∧ Fr (rgR r) h h')) := by
  refine Con.mk (by decide) ?_
  show RT _ _ 0 [some (.ref r), some (.int (nI e)), some (.int wy), none] [] _ _
  refine r_aload_0 dX4_add_0 ?_
  refine r_getR (a := (r + 1)) dX4_add_1 fl_X4_9 (hR.s 0 (by decide)) rfl ?_
  refine r_aload_0 dX4_add_4 ?_
  refine r_getI dX4_add_5 fl_X4_24 (hR.s 0 (by decide)) ?_
  rw [hr0]
  refine r_ialdN dX4_add_8 (hR.s 1 (by decide)) (by omega) ?_
  rw [ra.1]
  refine r_istore_3 dX4_add_9 ?_
  refine r_iload_1 dX4_add_10 ?_
  refine r_if_lt 62 dX4_add_11 (by decide) (fun c_11 => by exact absurd c_11 (nI_pos he)) (fun c_11 => ?_)
  refine r_iload_3 dX4_add_14 ?_
  refine r_bipush (v := nI 9) dX4_add_15 (by decide) ?_
  refine r_icmpN_ge 62 dX4_add_17 (by decide) (by omega) (by omega) (fun c_17 => by omega) (fun c_17 => ?_)
  refine r_aload_0 dX4_add_20 ?_
  refine r_getR (a := (r + 2)) dX4_add_21 fl_X4_15 (hR.s 0 (by decide)) rfl ?_
  refine r_aload_0 dX4_add_24 ?_
  refine r_getI dX4_add_25 fl_X4_24 (hR.s 0 (by decide)) ?_
  rw [hr0]
  refine r_bipush (v := nI 9) dX4_add_28 (by decide) ?_
  refine r_imul dX4_add_30 ?_
  refine r_iload_3 dX4_add_31 ?_
  refine r_iadd dX4_add_32 ?_
  refine r_iload_1 dX4_add_33 ?_
  rw [pk_mul, nI_add]
  refine r_iastN dX4_add_34 (hR.s 2 (by decide)) (by omega) ?_
  refine r_aload_0 dX4_add_35 ?_
  refine r_getR (a := (r + 3)) dX4_add_36 fl_X4_18 (hR.s 0 (by decide)) rfl ?_
  refine r_aload_0 dX4_add_39 ?_
  refine r_getI dX4_add_40 fl_X4_24 (hR.s 0 (by decide)) ?_
  simp (decide := true) only [pI_1, pI_2, pL_1, pL_2, pA_1, pA_2, pB_1, pB_2, Nat.add_left_cancel_iff, Nat.add_right_cancel_iff, Nat.add_eq_left, Nat.left_eq_add, true_and, false_and, and_false, and_true, and_self, if_true, if_false, ite_true, ite_false]
  rw [hr0]
  refine r_bipush (v := nI 9) dX4_add_43 (by decide) ?_
  refine r_imul dX4_add_45 ?_
  refine r_iload_3 dX4_add_46 ?_
  refine r_iadd dX4_add_47 ?_
  refine r_iload_2 dX4_add_48 ?_
  rw [pk_mul, nI_add]
  refine r_iastN dX4_add_49 (hR.s 3 (by decide)) (by omega) ?_
  refine r_aload_0 dX4_add_50 ?_
  refine r_getR (a := (r + 1)) dX4_add_51 fl_X4_9 (hR.s 0 (by decide)) rfl ?_
  refine r_aload_0 dX4_add_54 ?_
  refine r_getI dX4_add_55 fl_X4_24 (hR.s 0 (by decide)) ?_
  simp (decide := true) only [pI_1, pI_2, pL_1, pL_2, pA_1, pA_2, pB_1, pB_2, Nat.add_left_cancel_iff, Nat.add_right_cancel_iff, Nat.add_eq_left, Nat.left_eq_add, true_and, false_and, and_false, and_true, and_self, if_true, if_false, ite_true, ite_false]
  rw [hr0]
  refine r_iload_3 dX4_add_58 ?_
  refine r_iconst (v := 1) dX4_add_59 (by decide) ?_
  refine r_iadd dX4_add_60 ?_
  refine r_iastN dX4_add_61 (hR.s 1 (by decide)) (by omega) ?_
  refine r_vret dX4_add_62 rfl ?_
  refine ⟨rfl, ⟨?_, fun i hi => ?_⟩, ⟨?_, fun k hk => ?_, fun j hj => ?_⟩, ?_, ((Fr.rf.pI (rgR_i (by omega))).pI (rgR_i (by omega))).pI (rgR_i (by omega))⟩
  · simp (decide := true) only [pI_1, pI_2, pL_1, pL_2, pA_1, pA_2, pB_1, pB_2, Nat.add_left_cancel_iff, Nat.add_right_cancel_iff, Nat.add_eq_left, Nat.left_eq_add, true_and, false_and, and_false, and_true, and_self, if_true, if_false, ite_true, ite_false]
    rw [nI_1]; simp
  · simp (decide := true) only [pI_1, pI_2, pL_1, pL_2, pA_1, pA_2, pB_1, pB_2, Nat.add_left_cancel_iff, Nat.add_right_cancel_iff, Nat.add_eq_left, Nat.left_eq_add, true_and, false_and, and_false, and_true, and_self, if_true, if_false, ite_true, ite_false]
    rw [List.length_append] at hi
    simp only [List.length_cons, List.length_nil] at hi
    by_cases q : i = L.length
    · subst q
      rw [gq_r, if_pos (by omega), if_pos (by omega)]; exact ⟨rfl, rfl⟩
    · rw [gq_l (by omega), if_neg (by omega), if_neg (by omega)]; exact ra.2 i (by omega)
  · funext j
    simp (decide := true) only [pI_1, pI_2, pL_1, pL_2, pA_1, pA_2, pB_1, pB_2, Nat.add_left_cancel_iff, Nat.add_right_cancel_iff, Nat.add_eq_left, Nat.left_eq_add, true_and, false_and, and_false, and_true, and_self, if_true, if_false, ite_true, ite_false]
  · simp (decide := true) only [pI_1, pI_2, pL_1, pL_2, pA_1, pA_2, pB_1, pB_2, Nat.add_left_cancel_iff, Nat.add_right_cancel_iff, Nat.add_eq_left, Nat.left_eq_add, true_and, false_and, and_false, and_true, and_self, if_true, if_false, ite_true, ite_false]
    rw [if_neg hk]
  · simp (decide := true) only [pI_1, pI_2, pL_1, pL_2, pA_1, pA_2, pB_1, pB_2, Nat.add_left_cancel_iff, Nat.add_right_cancel_iff, Nat.add_eq_left, Nat.left_eq_add, true_and, false_and, and_false, and_true, and_self, if_true, if_false, ite_true, ite_false]
    rw [if_neg (by omega), if_neg (by omega)]; exact ⟨rfl, rfl⟩
  · funext j
    simp (decide := true) only [pI_1, pI_2, pL_1, pL_2, pA_1, pA_2, pB_1, pB_2, Nat.add_left_cancel_iff, Nat.add_right_cancel_iff, Nat.add_eq_left, Nat.left_eq_add, true_and, false_and, and_false, and_true, and_self, if_true, if_false, ite_true, ite_false]

set_option maxRecDepth 100000 in
set_option maxHeartbeats 4000000 in
theorem ft2 {r a : Nat} (hR : isR r) (hT : isT a) {E : Nat} {fi se : Nat → Nat} {op : Nat → Bool} {s : TS} (tw : TW E fi se op s) (hE : endsOK E fi se) (hE14 : E ≤ 14) {c : Nat} (hc : c < 14) (h0 : PH) (d : List Nat) (hd : ∀ v ∈ d, s.2.2.2 v = true ∧ v ≠ 0) : ∀ (n : Nat) (u : RG) (h : PH), n ≤ d.length → h.1 r 0 = nI c → RAt h r c u → (∀ i, i < d.length → h.1 (r + 4) i = nI (d.getD i 0)) → u.length + n ≤ 9 → TreeC h a fi se s → RKp h0 h r c → Fr (rgR r) h0 h → RT mX4_followTree 2 114 [some (.ref r), some (.ref a), none, none, none, none, none, some (.int (nI n - 1))] [] h (fun x h' => x = none ∧ (RAt h' r c (u ++ dnL se s (d.take n)) ∧ RKp h0 h' r c ∧ Fr (rgR r) h0 h')) := by
  intro n
  induction n with
  | zero =>
    intro u h hn hr0 ra hdw hlen tc kp fr
    refine r_iload_7 dX4_followTree_114 ?_
    refine r_if_lt 153 dX4_followTree_116 (by decide) (fun c_116 => ?_) (fun c_116 => by exact absurd (show nI 0 - 1 < 0 by decide) c_116)
    refine r_vret dX4_followTree_153 rfl ?_
    exact ⟨rfl, by simpa [dnL] using ra, kp, fr⟩
  | succ n ih =>
    intro u h hn hr0 ra hdw hlen tc kp fr
    have hdm : d.getD n 0 ∈ d := by rw [List.getD_eq_getElem?_getD, List.getElem?_eq_getElem (show n < d.length by omega)]; exact List.getElem_mem _
    have hv := hd _ hdm
    have h9 := tw.lt9 hv.1
    have ta := tc.at tw hE hE14 hv.1 hv.2
    have hpe := (tw.upm hE hE14 hv.1 hv.2).2.2.1
    rw [nI_pred, dnL_take (by omega)]
    have hn9 : n < 9 := by omega
    refine r_iload_7 dX4_followTree_114 ?_
    refine r_if_lt 153 dX4_followTree_116 (by decide) (fun c_116 => by exact absurd c_116 (nI_pos (by omega))) (fun c_116 => ?_)
    refine r_aload_0 dX4_followTree_119 ?_
    refine r_aload_1 dX4_followTree_120 ?_
    refine r_getR (a := (a + 3)) dX4_followTree_121 fl_X4_60 (hT.s 0 (by decide)) rfl ?_
    refine r_aload_0 dX4_followTree_124 ?_
    refine r_getR (a := (r + 4)) dX4_followTree_125 fl_X4_21 (hR.s 0 (by decide)) rfl ?_
    refine r_iload_7 dX4_followTree_128 ?_
    refine r_ialdN dX4_followTree_130 (hR.s 4 (by decide)) (by omega) ?_
    rw [hdw n (by omega)]
    refine r_ialdN dX4_followTree_131 (hT.s 3 (by decide)) (by omega) ?_
    rw [ta.1]
    refine r_aload_1 dX4_followTree_132 ?_
    refine r_getR (a := (a + 4)) dX4_followTree_133 fl_X4_63 (hT.s 0 (by decide)) rfl ?_
    refine r_aload_0 dX4_followTree_136 ?_
    refine r_getR (a := (r + 4)) dX4_followTree_137 fl_X4_21 (hR.s 0 (by decide)) rfl ?_
    refine r_iload_7 dX4_followTree_140 ?_
    refine r_ialdN dX4_followTree_142 (hR.s 4 (by decide)) (by omega) ?_
    rw [hdw n (by omega)]
    refine r_ialdN dX4_followTree_143 (hT.s 4 (by decide)) (by omega) ?_
    rw [ta.2.2]
    refine r_cWQ2 mX4_add dX4_followTree_144 ml_X4_46 mo_X4_add (hR.s 0 (by decide)) (k_add hR hc hr0 ra (by omega) (by omega) _) (by decide) (fun h1 p1 => ?_)
    obtain ⟨r1, k1, d1, f1⟩ := p1
    refine r_iinc_7 (v := (-1)) dX4_followTree_147 (by decide) ?_
    rw [← Int32.sub_eq_add_neg]
    refine r_goto 114 dX4_followTree_150 (by decide) ?_
    rw [show u ++ (pe s (d.getD n 0), wD se s (d.getD n 0)) :: dnL se s (d.take n) = (u ++ [(pe s (d.getD n 0), wD se s (d.getD n 0))]) ++ dnL se s (d.take n) by simp]
    exact ih (u ++ [(pe s (d.getD n 0), wD se s (d.getD n 0))]) h1 (by omega) (by rw [k1.1]; exact hr0) r1 (fun i hi => by rw [d1]; exact hdw i hi) (by simp; omega) (tc.fr f1 (tr_apart hT hR)) (kp.tr k1) (fr.tr f1)

set_option maxRecDepth 100000 in
set_option maxHeartbeats 4000000 in
theorem ft1 {r a : Nat} (hR : isR r) (hT : isT a) {E : Nat} {fi se : Nat → Nat} {op : Nat → Bool} {s : TS} (tw : TW E fi se op s) (hE : endsOK E fi se) (hE14 : E ≤ 14) {c : Nat} (hc : c < 14) (h0 : PH) : ∀ (m x y : Nat) (u : RG) (d : List Nat) (st : Nat) (h : PH), (PT fi se s x y).1.length + (PT fi se s x y).2.length = m → s.2.2.2 x = true → s.2.2.2 y = true → h.1 r 0 = nI c → RAt h r c u → (∀ i, i < d.length → h.1 (r + 4) i = nI (d.getD i 0)) → (∀ v ∈ d, s.2.2.2 v = true ∧ v ≠ 0) → u.length + d.length + m ≤ 9 → st + m ≤ 17 → TreeC h a fi se s → RKp h0 h r c → Fr (rgR r) h0 h → RT mX4_followTree 2 12 [some (.ref r), some (.ref a), none, none, some (.int (nI x)), some (.int (nI y)), some (.int (nI d.length)), some (.int (nI st))] [] h (fun z h' => z = none ∧ (RAt h' r c (u ++ (PT fi se s x y).1 ++ dnL se s (d ++ (PT fi se s x y).2)) ∧ RKp h0 h' r c ∧ Fr (rgR r) h0 h')) := by
  intro m
  induction m with
  | zero =>
    intro x y u d st h hm hx hy hr0 ra hdw hd hlen hst tc kp fr
    have hx9 := tw.lt9 hx
    have hy9 := tw.lt9 hy
    have pt := PT_eq tw hE hE14 hx hy
    have hxy : x = y := by
      by_cases q : x = y
      · exact q
      · rw [if_neg q] at pt
        split at pt <;> (rw [pt] at hm; simp at hm)
    rw [if_pos hxy] at pt
    rw [pt]
    refine r_iload_7 dX4_followTree_12 ?_
    refine r_bipush (v := nI 18) dX4_followTree_14 (by decide) ?_
    refine r_icmpN_ge 108 dX4_followTree_16 (by decide) (by omega) (by omega) (fun c_16 => by omega) (fun c_16 => ?_)
    refine r_iload_4 dX4_followTree_19 ?_
    refine r_iload_5 dX4_followTree_21 ?_
    refine r_icmpN_eq 108 dX4_followTree_23 (by decide) (by omega) (by omega) (fun c_23 => ?_) (fun c_23 => by exact absurd hxy c_23)
    refine r_iload_6 dX4_followTree_108 ?_
    refine r_iconst (v := 1) dX4_followTree_110 (by decide) ?_
    refine r_isub dX4_followTree_111 ?_
    refine r_istore_7 dX4_followTree_112 ?_
    have := ft2 hR hT tw hE hE14 hc h0 d hd d.length u h (Nat.le_refl _) hr0 ra hdw (by omega) tc kp fr
    rw [List.take_length] at this
    refine RT.sub (lv' := [some (.ref r), some (.ref a), none, none, none, none, none, some (.int (nI d.length - 1))]) (by simp [lsub]) ?_
    simpa using this
  | succ m ih =>
    intro x y u d st h hm hx hy hr0 ra hdw hd hlen hst tc kp fr
    have hx9 := tw.lt9 hx
    have hy9 := tw.lt9 hy
    have pt := PT_eq tw hE hE14 hx hy
    have hxy : ¬ x = y := fun q => by rw [if_pos q] at pt; rw [pt] at hm; simp at hm
    rw [if_neg hxy] at pt
    have ps := PT_step tw hE hE14 hx hy hxy
    have d8x := tw.dp8 hE hE14 hx
    have d8y := tw.dp8 hE hE14 hy
    by_cases hdp : dpj fi se s y ≤ dpj fi se s x
    · rw [if_pos hdp] at pt
      have um := tw.upm hE hE14 hx (ps.1 hdp)
      have ta := tc.at tw hE hE14 hx (ps.1 hdp)
      rw [pt] at hm ⊢
      simp only [List.length_cons] at hm
      refine r_iload_7 dX4_followTree_12 ?_
      refine r_bipush (v := nI 18) dX4_followTree_14 (by decide) ?_
      refine r_icmpN_ge 108 dX4_followTree_16 (by decide) (by omega) (by omega) (fun c_16 => by omega) (fun c_16 => ?_)
      refine r_iload_4 dX4_followTree_19 ?_
      refine r_iload_5 dX4_followTree_21 ?_
      refine r_icmpN_eq 108 dX4_followTree_23 (by decide) (by omega) (by omega) (fun c_23 => by exact absurd c_23 hxy) (fun c_23 => ?_)
      refine r_aload_1 dX4_followTree_26 ?_
      refine r_getR (a := (a + 5)) dX4_followTree_27 fl_X4_57 (hT.s 0 (by decide)) rfl ?_
      refine r_iload_4 dX4_followTree_30 ?_
      refine r_ialdN dX4_followTree_32 (hT.s 5 (by decide)) (by omega) ?_
      rw [tc.dp tw hx]
      refine r_aload_1 dX4_followTree_33 ?_
      refine r_getR (a := (a + 5)) dX4_followTree_34 fl_X4_57 (hT.s 0 (by decide)) rfl ?_
      refine r_iload_5 dX4_followTree_37 ?_
      refine r_ialdN dX4_followTree_39 (hT.s 5 (by decide)) (by omega) ?_
      rw [tc.dp tw hy]
      refine r_icmpN_lt 74 dX4_followTree_40 (by decide) (by omega) (by omega) (fun c_40 => by omega) (fun c_40 => ?_)
      refine r_aload_0 dX4_followTree_43 ?_
      refine r_aload_1 dX4_followTree_44 ?_
      refine r_getR (a := (a + 3)) dX4_followTree_45 fl_X4_60 (hT.s 0 (by decide)) rfl ?_
      refine r_iload_4 dX4_followTree_48 ?_
      refine r_ialdN dX4_followTree_50 (hT.s 3 (by decide)) (by omega) ?_
      rw [ta.1]
      refine r_aload_1 dX4_followTree_51 ?_
      refine r_getR (a := (a + 4)) dX4_followTree_52 fl_X4_63 (hT.s 0 (by decide)) rfl ?_
      refine r_iload_4 dX4_followTree_55 ?_
      refine r_ialdN dX4_followTree_57 (hT.s 4 (by decide)) (by omega) ?_
      rw [ta.2.2]
      refine r_ineg dX4_followTree_58 ?_
      rw [tw.wUD hE hE14 hx (ps.1 hdp)]
      refine r_cWQ2 mX4_add dX4_followTree_59 ml_X4_46 mo_X4_add (hR.s 0 (by decide)) (k_add hR hc hr0 ra (by omega) (by omega) _) (by decide) (fun h1 p1 => ?_)
      obtain ⟨r1, k1, d1, f1⟩ := p1
      refine r_aload_1 dX4_followTree_62 ?_
      refine r_getR (a := (a + 2)) dX4_followTree_63 fl_X4_64 (hT.s 0 (by decide)) rfl ?_
      refine r_iload_4 dX4_followTree_66 ?_
      refine r_ialdN dX4_followTree_68 (hT.s 2 (by decide)) (by omega) ?_
      rw [((tc.fr f1 (tr_apart hT hR)).at tw hE hE14 hx (ps.1 hdp)).2.1]
      refine r_istore_4 dX4_followTree_69 ?_
      refine r_goto 102 dX4_followTree_71 (by decide) ?_
      refine r_iincN_7 dX4_followTree_102 ?_
      refine r_goto 12 dX4_followTree_105 (by decide) ?_
      have := ih (upj fi se s x) y (u ++ [(pe s x, wU fi s x)]) d (st + 1) h1 (by omega) um.1 hy (by rw [k1.1]; exact hr0) r1 (fun i hi => by rw [d1]; exact hdw i hi) hd (by simp; omega) (by omega) (tc.fr f1 (tr_apart hT hR)) (kp.tr k1) (fr.tr f1)
      rw [show u ++ [(pe s x, wU fi s x)] ++ (PT fi se s (upj fi se s x) y).1 = u ++ (pe s x, wU fi s x) :: (PT fi se s (upj fi se s x) y).1 by simp] at this
      exact this
    · rw [if_neg hdp] at pt
      have um := tw.upm hE hE14 hy (ps.2 hdp)
      have ta := tc.at tw hE hE14 hy (ps.2 hdp)
      rw [pt] at hm ⊢
      simp only [List.length_cons] at hm
      refine r_iload_7 dX4_followTree_12 ?_
      refine r_bipush (v := nI 18) dX4_followTree_14 (by decide) ?_
      refine r_icmpN_ge 108 dX4_followTree_16 (by decide) (by omega) (by omega) (fun c_16 => by omega) (fun c_16 => ?_)
      refine r_iload_4 dX4_followTree_19 ?_
      refine r_iload_5 dX4_followTree_21 ?_
      refine r_icmpN_eq 108 dX4_followTree_23 (by decide) (by omega) (by omega) (fun c_23 => by exact absurd c_23 hxy) (fun c_23 => ?_)
      refine r_aload_1 dX4_followTree_26 ?_
      refine r_getR (a := (a + 5)) dX4_followTree_27 fl_X4_57 (hT.s 0 (by decide)) rfl ?_
      refine r_iload_4 dX4_followTree_30 ?_
      refine r_ialdN dX4_followTree_32 (hT.s 5 (by decide)) (by omega) ?_
      rw [tc.dp tw hx]
      refine r_aload_1 dX4_followTree_33 ?_
      refine r_getR (a := (a + 5)) dX4_followTree_34 fl_X4_57 (hT.s 0 (by decide)) rfl ?_
      refine r_iload_5 dX4_followTree_37 ?_
      refine r_ialdN dX4_followTree_39 (hT.s 5 (by decide)) (by omega) ?_
      rw [tc.dp tw hy]
      refine r_icmpN_lt 74 dX4_followTree_40 (by decide) (by omega) (by omega) (fun c_40 => ?_) (fun c_40 => by omega)
      refine r_iload_6 dX4_followTree_74 ?_
      refine r_bipush (v := nI 9) dX4_followTree_76 (by decide) ?_
      refine r_icmpN_ge 102 dX4_followTree_78 (by decide) (by omega) (by omega) (fun c_78 => by omega) (fun c_78 => ?_)
      refine r_aload_0 dX4_followTree_81 ?_
      refine r_getR (a := (r + 4)) dX4_followTree_82 fl_X4_21 (hR.s 0 (by decide)) rfl ?_
      refine r_iload_6 dX4_followTree_85 ?_
      refine r_iload_5 dX4_followTree_87 ?_
      refine r_iastN dX4_followTree_89 (hR.s 4 (by decide)) (by omega) ?_
      have f1 : Fr (rgR r) h (pI h (r + 4) d.length (nI y)) := Fr.rf.pI (rgR_i (by omega))
      refine r_iincN_6 dX4_followTree_90 ?_
      refine r_aload_1 dX4_followTree_93 ?_
      refine r_getR (a := (a + 2)) dX4_followTree_94 fl_X4_64 (hT.s 0 (by decide)) rfl ?_
      refine r_iload_5 dX4_followTree_97 ?_
      refine r_ialdN dX4_followTree_99 (hT.s 2 (by decide)) (by omega) ?_
      rw [((tc.fr f1 (tr_apart hT hR)).at tw hE hE14 hy (ps.2 hdp)).2.1]
      refine r_istore_5 dX4_followTree_100 ?_
      refine r_iincN_7 dX4_followTree_102 ?_
      refine r_goto 12 dX4_followTree_105 (by decide) ?_
      have k1 : RKp h (pI h (r + 4) d.length (nI y)) r c := ⟨funext fun j => by simp (decide := true) only [pI_1, pI_2, pL_1, pL_2, pA_1, pA_2, pB_1, pB_2, Nat.add_left_cancel_iff, Nat.add_right_cancel_iff, Nat.add_eq_left, Nat.left_eq_add, true_and, false_and, and_false, and_true, and_self, if_true, if_false, ite_true, ite_false], fun k _ => by simp (decide := true) only [pI_1, pI_2, pL_1, pL_2, pA_1, pA_2, pB_1, pB_2, Nat.add_left_cancel_iff, Nat.add_right_cancel_iff, Nat.add_eq_left, Nat.left_eq_add, true_and, false_and, and_false, and_true, and_self, if_true, if_false, ite_true, ite_false], fun j _ => by simp (decide := true) only [pI_1, pI_2, pL_1, pL_2, pA_1, pA_2, pB_1, pB_2, Nat.add_left_cancel_iff, Nat.add_right_cancel_iff, Nat.add_eq_left, Nat.left_eq_add, true_and, false_and, and_false, and_true, and_self, if_true, if_false, ite_true, ite_false]⟩
      have := ih x (upj fi se s y) u (d ++ [y]) (st + 1) (pI h (r + 4) d.length (nI y)) (by omega) hx um.1 (by rw [k1.1]; exact hr0) (ra.ext (by funext j; simp (decide := true) only [pI_1, pI_2, pL_1, pL_2, pA_1, pA_2, pB_1, pB_2, Nat.add_left_cancel_iff, Nat.add_right_cancel_iff, Nat.add_eq_left, Nat.left_eq_add, true_and, false_and, and_false, and_true, and_self, if_true, if_false, ite_true, ite_false]) (by funext j; simp (decide := true) only [pI_1, pI_2, pL_1, pL_2, pA_1, pA_2, pB_1, pB_2, Nat.add_left_cancel_iff, Nat.add_right_cancel_iff, Nat.add_eq_left, Nat.left_eq_add, true_and, false_and, and_false, and_true, and_self, if_true, if_false, ite_true, ite_false]) (by funext j; simp (decide := true) only [pI_1, pI_2, pL_1, pL_2, pA_1, pA_2, pB_1, pB_2, Nat.add_left_cancel_iff, Nat.add_right_cancel_iff, Nat.add_eq_left, Nat.left_eq_add, true_and, false_and, and_false, and_true, and_self, if_true, if_false, ite_true, ite_false])) (fun i hi => ?_) (fun v hv => ?_) (by simp; omega) (by omega) (tc.fr f1 (tr_apart hT hR)) (kp.tr k1) (fr.tr f1)
      · rw [show d ++ [y] ++ (PT fi se s x (upj fi se s y)).2 = d ++ y :: (PT fi se s x (upj fi se s y)).2 by simp, show (d ++ [y]).length = d.length + 1 by simp] at this
        exact this
      · simp (decide := true) only [pI_1, pI_2, pL_1, pL_2, pA_1, pA_2, pB_1, pB_2, Nat.add_left_cancel_iff, Nat.add_right_cancel_iff, Nat.add_eq_left, Nat.left_eq_add, true_and, false_and, and_false, and_true, and_self, if_true, if_false, ite_true, ite_false]
        simp only [List.length_append, List.length_cons, List.length_nil] at hi
        by_cases q : i = d.length
        · subst q; simp [List.getD_eq_getElem?_getD]
        · rw [if_neg q, hdw i (by omega)]
          simp only [List.getD_eq_getElem?_getD, List.getElem?_append_left (show i < d.length by omega)]
      · rcases List.mem_append.mp hv with q | q
        · exact hd v q
        · simp at q; subst q; exact ⟨hy, ps.2 hdp⟩

set_option maxRecDepth 100000 in
set_option maxHeartbeats 4000000 in
theorem k_follow {r a : Nat} (hR : isR r) (hT : isT a) {E : Nat} {fi se : Nat → Nat} {op : Nat → Bool} {s : TS} (tw : TW E fi se op s) (hE : endsOK E fi se) (hE14 : E ≤ 14) {c : Nat} (hc : c < 14) {h : PH} {x y : Nat} {u : RG} (hx : s.2.2.2 x = true) (hy : s.2.2.2 y = true) (hr0 : h.1 r 0 = nI c) (ra : RAt h r c u) (hu : u.length ≤ 1) (tc : TreeC h a fi se s) : Con mX4_followTree 2 [.ref r, .ref a, .int (nI x), .int (nI y)] h (fun z h' => z = none ∧ (RAt h' r c (u ++ (PT fi se s x y).1 ++ dnL se s (PT fi se s x y).2) ∧ RKp h h' r c ∧ Fr (rgR r) h h')) := by
  refine Con.mk (by decide) ?_
  show RT _ _ 0 [some (.ref r), some (.ref a), some (.int (nI x)), some (.int (nI y)), none, none, none, none] [] _ _
  have hl := PT_len tw hE hE14 hx hy
  refine r_iload_2 dX4_followTree_0 ?_
  refine r_istore_4 dX4_followTree_1 ?_
  refine r_iload_3 dX4_followTree_3 ?_
  refine r_istore_5 dX4_followTree_4 ?_
  refine r_iconst (v := nI 0) dX4_followTree_6 (by decide) ?_
  refine r_istore_6 dX4_followTree_7 ?_
  refine r_iconst (v := nI 0) dX4_followTree_9 (by decide) ?_
  refine r_istore_7 dX4_followTree_10 ?_
  refine RT.sub (lv' := [some (.ref r), some (.ref a), none, none, some (.int (nI x)), some (.int (nI y)), some (.int (nI 0)), some (.int (nI 0))]) (by simp [lsub]) ?_
  exact ft1 hR hT tw hE hE14 hc h _ x y u [] 0 h rfl hx hy hr0 ra (fun i hi => by simp at hi) (fun v hv => by simp at hv) (by simp; omega) (by omega) tc RKp.rf Fr.rf

theorem isTE_bit {E : Nat} {fi se : Nat → Nat} {op : Nat → Bool} {s : TS} {h : PH} {a : Nat} (tc : TreeC h a fi se s) (tw : TW E fi se op s) (hE : endsOK E fi se) (hE14 : E ≤ 14) {e : Nat} (he : e < E) : bt (h.1 a 1) e = isTE fi se s e := by
  have key : bt (h.1 a 1) e = true ↔ isTE fi se s e = true := by
    rw [tc.2.1 e (by omega)]
    simp only [isTE, Bool.or_eq_true, decide_eq_true_eq]
    have back : ∀ j, s.2.2.1 j = nI e → ∃ i, 0 < i ∧ i < s.1 ∧ pe s (s.2.1 i) = e := by
      intro j hj
      have h2 : ∀ x : Nat, x < 14 → ¬ (nI x = -2) := by decide +kernel
      have hm : s.2.2.2 j = true := by
        cases q : s.2.2.2 j with
        | true => rfl
        | false => exact absurd (hj.symm.trans (tw.2.2.2.2.2.1 j q)) (h2 e (by omega))
      have h0 : j ≠ 0 := fun q => by rw [q] at hj; exact absurd (hj.symm.trans tw.2.2.2.2.2.2) (h2 e (by omega))
      obtain ⟨i, hi, q, z⟩ := tw.at hm
      exact ⟨i, z.mp h0, hi, by rw [q]; unfold pe; rw [hj]; exact nI_clamp (by omega)⟩
    constructor
    · rintro ⟨i, h0, hi, q⟩
      obtain ⟨k, -, -, -, g4, -, g5⟩ := tw.up hE hE14 h0 hi
      rw [q] at g4 g5
      rcases g5 with g5 | g5
      · left; rw [g5.1]; exact g4
      · right; rw [g5.1]; exact g4
    · rintro (q | q)
      · exact back _ q
      · exact back _ q
  cases h1 : bt (h.1 a 1) e <;> cases h2 : isTE fi se s e <;> simp_all
theorem RingsC.snoc {h h1 : PH} {r : Nat} {R : List RG} {L : RG} (rc : RingsC h r R) (h9 : ∀ L ∈ R, L.length ≤ 9) (kp : RKp h h1 r R.length) (ra : RAt h1 r R.length L) {x : Int32} (hx : x = nI (R.length + 1)) : RingsC (pI h1 r 0 x) r (R ++ [L]) := by
  refine ⟨?_, fun k hk => ?_⟩
  · rw [pI_eq, hx]; simp
  · have hk : k < R.length + 1 := by simpa using hk
    have base : RAt h1 r k ((R ++ [L]).getD k []) := by
      by_cases q : k = R.length
      · subst q
        rw [List.getD_eq_getElem?_getD]; simpa using ra
      · rw [List.getD_eq_getElem?_getD, List.getElem?_append_left (by omega), ← List.getD_eq_getElem?_getD]
        refine (rc.2 k (by omega)).keep kp q (h9 _ ?_)
        rw [List.getD_eq_getElem?_getD, List.getElem?_eq_getElem (show k < R.length by omega)]
        exact List.getElem_mem _
    exact base.ext (by funext j; simp (decide := true) only [pI_1, pI_2, pL_1, pL_2, pA_1, pA_2, pB_1, pB_2, Nat.add_left_cancel_iff, Nat.add_right_cancel_iff, Nat.add_eq_left, Nat.left_eq_add, true_and, false_and, and_false, and_true, and_self, if_true, if_false, ite_true, ite_false]) (by funext j; simp (decide := true) only [pI_1, pI_2, pL_1, pL_2, pA_1, pA_2, pB_1, pB_2, Nat.add_left_cancel_iff, Nat.add_right_cancel_iff, Nat.add_eq_left, Nat.left_eq_add, true_and, false_and, and_false, and_true, and_self, if_true, if_false, ite_true, ite_false]) (by funext j; simp (decide := true) only [pI_1, pI_2, pL_1, pL_2, pA_1, pA_2, pB_1, pB_2, Nat.add_left_cancel_iff, Nat.add_right_cancel_iff, Nat.add_eq_left, Nat.left_eq_add, true_and, false_and, and_false, and_true, and_self, if_true, if_false, ite_true, ite_false])
theorem ringsS_9 {t : NT} (ok : okT t) {op : Nat → Bool} {s : TS} (tw : TW (NT.E t) (NT.fi t) (NT.se t) op s) (both : ∀ e, e < NT.E t → op e = true → (s.2.2.2 (NT.fi t e) = true ↔ s.2.2.2 (NT.se t e) = true)) {n : Nat} (hn : n ≤ NT.E t) : ∀ L ∈ ringsS (NT.fi t) (NT.se t) op s n, L.length ≤ 9 := by
  intro L hL
  obtain ⟨e, he, h⟩ := List.mem_filterMap.mp hL
  have he := List.mem_range.mp he
  by_cases hc : isRE (NT.fi t) (NT.se t) op s e = true
  · rw [if_pos hc] at h
    cases h
    simp only [isRE, Bool.and_eq_true] at hc
    exact (ring_ok tw ok.ends ok.2.2.1 (show e < NT.E t by omega) hc.1.1 hc.1.2 ((both e (by omega) hc.1.1).mp hc.1.2)).1
  · rw [if_neg hc] at h; cases h
theorem ringsS_le (fi se : Nat → Nat) (op : Nat → Bool) (s : TS) (n : Nat) : (ringsS fi se op s n).length ≤ n := by
  have h : (ringsS fi se op s n).length ≤ (List.range n).length := List.length_filterMap_le _ _
  rwa [List.length_range] at h
set_option maxRecDepth 100000 in
set_option maxHeartbeats 4000000 in
theorem find_loop {r a o : Nat} (hR : isR r) (hT : isT a) (hN : isN o) {t : NT} (ok : okT t) {op : Nat → Bool} {s : TS} (tw : TW (NT.E t) (NT.fi t) (NT.se t) op s) (both : ∀ e, e < NT.E t → op e = true → (s.2.2.2 (NT.fi t e) = true ↔ s.2.2.2 (NT.se t e) = true)) (bits bs : Int32) (hbs : ∀ e, e < NT.E t → bt bs e = (op e && !isTE (NT.fi t) (NT.se t) s e)) (h0 : PH) : ∀ (m e : Nat) (h : PH), e + m = NT.E t → NetC h o t → TreeC h a (NT.fi t) (NT.se t) s → RingsC h r (ringsS (NT.fi t) (NT.se t) op s e) → Fr (rgR r) h0 h → RT mX4_find 3 18 [some (.ref r), some (.ref o), some (.ref a), some (.int bits), some (.int bs), some (.int (nI e))] [] h (fun z h' => z = none ∧ (RingsC h' r (ringsS (NT.fi t) (NT.se t) op s (NT.E t)) ∧ Fr (rgR r) h0 h')) := by
  have hE14 := ok.2.2.1
  have hj9 := ok.2.1
  intro m
  induction m with
  | zero =>
    intro e h hm nc tc rc fr
    refine r_iload_5 dX4_find_18 ?_
    refine r_aload_1 dX4_find_20 ?_
    refine r_getI dX4_find_21 fl_X4_33 (hN.s 0 (by decide)) ?_
    rw [nc.2.1]
    refine r_icmpN_ge 108 dX4_find_24 (by decide) (by omega) (by omega) (fun c_24 => ?_) (fun c_24 => by omega)
    refine r_vret dX4_find_108 rfl ?_
    have : e = NT.E t := by omega
    subst this; exact ⟨rfl, rc, fr⟩
  | succ m ih =>
    intro e h hm nc tc rc fr
    have he : e < NT.E t := by omega
    obtain ⟨n1, n2, n3, n4, n5, n6⟩ := nc.2.2.2.2.2 e he
    obtain ⟨ee1, ee2, ee3⟩ := ok.ends e he
    have hc14 := ringsS_le (NT.fi t) (NT.se t) op s e
    have hss := ringsS_succ (NT.fi t) (NT.se t) op s e
    by_cases hA : bt bs e = true
    · by_cases hB : s.2.2.2 (NT.fi t e) = true
      · have hbs' := hbs e he
        rw [hA] at hbs'
        have hb2 := hbs'.symm
        rw [Bool.and_eq_true] at hb2
        have hop2 : op e = true := hb2.1
        have hRE : isRE (NT.fi t) (NT.se t) op s e = true := by
          unfold isRE; rw [hop2, hB, hb2.2]; rfl
        have hsm := (both e he hop2).mp hB
        refine r_iload_5 dX4_find_18 ?_
        refine r_aload_1 dX4_find_20 ?_
        refine r_getI dX4_find_21 fl_X4_33 (hN.s 0 (by decide)) ?_
        rw [nc.2.1]
        refine r_icmpN_ge 108 dX4_find_24 (by decide) (by omega) (by omega) (fun c_24 => by omega) (fun c_24 => ?_)
        refine r_iload_4 dX4_find_27 ?_
        refine r_iload_5 dX4_find_29 ?_
        refine r_cSN2 mX7_bit dX4_find_31 ml_X4_36 mo_X7_bit (k_bit _ bs (j := e) (by omega)) (by decide) ?_
        rw [b2i_t hA]
        refine r_iconst (v := 1) dX4_find_34 (by decide) ?_
        refine r_icmp_ne 102 dX4_find_35 (by decide) (fun c_35 => by exact absurd rfl c_35) (fun c_35 => ?_)
        refine r_aload_2 dX4_find_38 ?_
        refine r_getI dX4_find_39 fl_X4_40 (hT.s 0 (by decide)) ?_
        refine r_aload_1 dX4_find_42 ?_
        refine r_getR (a := (o + 4)) dX4_find_43 fl_X4_43 (hN.s 0 (by decide)) rfl ?_
        refine r_iload_5 dX4_find_46 ?_
        refine r_ialdN dX4_find_48 (hN.s 4 (by decide)) (by omega) ?_
        rw [n1]
        refine r_cSN2 mX7_bit dX4_find_49 ml_X4_36 mo_X7_bit (k_bit _ _ (j := NT.fi t e) (by omega)) (by decide) ?_
        rw [b2i_t (by rw [tc.1 _ (by omega)]; exact hB)]
        refine r_iconst (v := 1) dX4_find_52 (by decide) ?_
        refine r_icmp_ne 102 dX4_find_53 (by decide) (fun c_53 => by exact absurd rfl c_53) (fun c_53 => ?_)
        refine r_aload_0 dX4_find_56 ?_
        refine r_getR (a := (r + 1)) dX4_find_57 fl_X4_9 (hR.s 0 (by decide)) rfl ?_
        refine r_aload_0 dX4_find_60 ?_
        refine r_getI dX4_find_61 fl_X4_24 (hR.s 0 (by decide)) ?_
        rw [rc.1]
        refine r_iconst (v := nI 0) dX4_find_64 (by decide) ?_
        refine r_iastN dX4_find_65 (hR.s 1 (by decide)) (by omega) ?_
        have f1 : Fr (rgR r) h (pI h (r + 1) (ringsS (NT.fi t) (NT.se t) op s e).length (nI 0)) := Fr.rf.pI (rgR_i (by omega))
        have kp1 : RKp h (pI h (r + 1) (ringsS (NT.fi t) (NT.se t) op s e).length (nI 0)) r (ringsS (NT.fi t) (NT.se t) op s e).length := ⟨funext fun j => by simp (decide := true) only [pI_1, pI_2, pL_1, pL_2, pA_1, pA_2, pB_1, pB_2, Nat.add_left_cancel_iff, Nat.add_right_cancel_iff, Nat.add_eq_left, Nat.left_eq_add, true_and, false_and, and_false, and_true, and_self, if_true, if_false, ite_true, ite_false], fun k hk => by simp (decide := true) only [pI_1, pI_2, pL_1, pL_2, pA_1, pA_2, pB_1, pB_2, Nat.add_left_cancel_iff, Nat.add_right_cancel_iff, Nat.add_eq_left, Nat.left_eq_add, true_and, false_and, and_false, and_true, and_self, if_true, if_false, ite_true, ite_false]; rw [if_neg hk], fun j _ => by simp (decide := true) only [pI_1, pI_2, pL_1, pL_2, pA_1, pA_2, pB_1, pB_2, Nat.add_left_cancel_iff, Nat.add_right_cancel_iff, Nat.add_eq_left, Nat.left_eq_add, true_and, false_and, and_false, and_true, and_self, if_true, if_false, ite_true, ite_false]⟩
        have hr1 : (pI h (r + 1) (ringsS (NT.fi t) (NT.se t) op s e).length (nI 0)).1 r 0 = nI (ringsS (NT.fi t) (NT.se t) op s e).length := by rw [kp1.1]; exact rc.1
        have ra1 : RAt (pI h (r + 1) (ringsS (NT.fi t) (NT.se t) op s e).length (nI 0)) r (ringsS (NT.fi t) (NT.se t) op s e).length [] := ⟨pI_eq, fun i hi => by simp at hi⟩
        refine r_aload_0 dX4_find_66 ?_
        refine r_iload_5 dX4_find_67 ?_
        refine r_iconst (v := 1) dX4_find_69 (by decide) ?_
        refine r_cWQ2 mX4_add dX4_find_70 ml_X4_46 mo_X4_add (hR.s 0 (by decide)) (k_add hR (show (ringsS (NT.fi t) (NT.se t) op s e).length < 14 by omega) hr1 ra1 (by decide) (show e < 2 ^ 31 by omega) 1) (by decide) (fun h2 p2 => ?_)
        obtain ⟨ra2, kp2, -, f2⟩ := p2
        have nc2 := (nc.fr f1 (nr_apart hN hR)).fr f2 (nr_apart hN hR)
        have tc2 := (tc.fr f1 (tr_apart hT hR)).fr f2 (tr_apart hT hR)
        obtain ⟨m1, m2, -⟩ := nc2.2.2.2.2.2 e he
        refine r_aload_0 dX4_find_73 ?_
        refine r_aload_2 dX4_find_74 ?_
        refine r_aload_1 dX4_find_75 ?_
        refine r_getR (a := (o + 5)) dX4_find_76 fl_X4_50 (hN.s 0 (by decide)) rfl ?_
        refine r_iload_5 dX4_find_79 ?_
        refine r_ialdN dX4_find_81 (hN.s 5 (by decide)) (by omega) ?_
        rw [m2]
        refine r_aload_1 dX4_find_82 ?_
        refine r_getR (a := (o + 4)) dX4_find_83 fl_X4_43 (hN.s 0 (by decide)) rfl ?_
        refine r_iload_5 dX4_find_86 ?_
        refine r_ialdN dX4_find_88 (hN.s 4 (by decide)) (by omega) ?_
        rw [m1]
        refine r_cWQ3 mX4_followTree dX4_find_89 ml_X4_53 mo_X4_followTree (hR.s 0 (by decide)) (k_follow hR hT tw ok.ends hE14 (show (ringsS (NT.fi t) (NT.se t) op s e).length < 14 by omega) hsm hB (by rw [kp2.1]; exact hr1) ra2 (by simp) tc2) (by decide) (fun h3 p3 => ?_)
        obtain ⟨ra3, kp3, f3⟩ := p3
        refine r_aload_0 dX4_find_92 ?_
        refine r_dupr dX4_find_93 ?_
        refine r_getI dX4_find_94 fl_X4_24 (hR.s 0 (by decide)) ?_
        have hr3 : h3.1 r 0 = nI (ringsS (NT.fi t) (NT.se t) op s e).length := by rw [kp3.1, kp2.1]; exact hr1
        rw [hr3]
        refine r_iconst (v := 1) dX4_find_97 (by decide) ?_
        refine r_iadd dX4_find_98 ?_
        refine r_putI dX4_find_99 fl_X4_24 (hR.s 0 (by decide)) rfl rfl ?_
        refine r_iincN_5 dX4_find_102 ?_
        refine r_goto 18 dX4_find_105 (by decide) ?_
        have rc' := rc.snoc (ringsS_9 ok tw both (Nat.le_of_lt he)) ((kp1.tr kp2).tr kp3) ra3 (x := nI (ringsS (NT.fi t) (NT.se t) op s e).length + 1) (nI_1 _)
        rw [show [] ++ [(e, (1 : Int32))] ++ (PT (NT.fi t) (NT.se t) s (NT.se t e) (NT.fi t e)).1 ++ dnL (NT.se t) s (PT (NT.fi t) (NT.se t) s (NT.se t e) (NT.fi t e)).2 = ringOf (NT.fi t) (NT.se t) s e by simp [ringOf]] at rc'
        rw [if_pos hRE] at hss
        rw [← hss] at rc'
        exact ih (e + 1) _ (by omega) (nc2.fr (f3.pI rgR_0) (nr_apart hN hR)) (tc2.fr (f3.pI rgR_0) (tr_apart hT hR)) rc' (((fr.tr f1).tr f2).tr (f3.pI rgR_0))
      · have hRE : ¬ isRE (NT.fi t) (NT.se t) op s e = true := by
          unfold isRE; intro q; simp only [Bool.and_eq_true] at q; exact hB q.1.2
        refine r_iload_5 dX4_find_18 ?_
        refine r_aload_1 dX4_find_20 ?_
        refine r_getI dX4_find_21 fl_X4_33 (hN.s 0 (by decide)) ?_
        rw [nc.2.1]
        refine r_icmpN_ge 108 dX4_find_24 (by decide) (by omega) (by omega) (fun c_24 => by omega) (fun c_24 => ?_)
        refine r_iload_4 dX4_find_27 ?_
        refine r_iload_5 dX4_find_29 ?_
        refine r_cSN2 mX7_bit dX4_find_31 ml_X4_36 mo_X7_bit (k_bit _ bs (j := e) (by omega)) (by decide) ?_
        rw [b2i_t hA]
        refine r_iconst (v := 1) dX4_find_34 (by decide) ?_
        refine r_icmp_ne 102 dX4_find_35 (by decide) (fun c_35 => by exact absurd rfl c_35) (fun c_35 => ?_)
        refine r_aload_2 dX4_find_38 ?_
        refine r_getI dX4_find_39 fl_X4_40 (hT.s 0 (by decide)) ?_
        refine r_aload_1 dX4_find_42 ?_
        refine r_getR (a := (o + 4)) dX4_find_43 fl_X4_43 (hN.s 0 (by decide)) rfl ?_
        refine r_iload_5 dX4_find_46 ?_
        refine r_ialdN dX4_find_48 (hN.s 4 (by decide)) (by omega) ?_
        rw [n1]
        refine r_cSN2 mX7_bit dX4_find_49 ml_X4_36 mo_X7_bit (k_bit _ _ (j := NT.fi t e) (by omega)) (by decide) ?_
        rw [b2i_f (by rw [tc.1 _ (by omega)]; exact hB)]
        refine r_iconst (v := 1) dX4_find_52 (by decide) ?_
        refine r_icmp_ne 102 dX4_find_53 (by decide) (fun c_53 => ?_) (fun c_53 => by exact absurd c_53 (by decide))
        refine r_iincN_5 dX4_find_102 ?_
        refine r_goto 18 dX4_find_105 (by decide) ?_
        rw [if_neg hRE, List.append_nil] at hss
        exact ih (e + 1) h (by omega) nc tc (by rw [hss]; exact rc) fr
    · have hRE : ¬ isRE (NT.fi t) (NT.se t) op s e = true := by
        unfold isRE; intro q; simp only [Bool.and_eq_true] at q; rw [hbs e he, q.1.1, q.2] at hA; exact hA rfl
      refine r_iload_5 dX4_find_18 ?_
      refine r_aload_1 dX4_find_20 ?_
      refine r_getI dX4_find_21 fl_X4_33 (hN.s 0 (by decide)) ?_
      rw [nc.2.1]
      refine r_icmpN_ge 108 dX4_find_24 (by decide) (by omega) (by omega) (fun c_24 => by omega) (fun c_24 => ?_)
      refine r_iload_4 dX4_find_27 ?_
      refine r_iload_5 dX4_find_29 ?_
      refine r_cSN2 mX7_bit dX4_find_31 ml_X4_36 mo_X7_bit (k_bit _ bs (j := e) (by omega)) (by decide) ?_
      rw [b2i_f hA]
      refine r_iconst (v := 1) dX4_find_34 (by decide) ?_
      refine r_icmp_ne 102 dX4_find_35 (by decide) (fun c_35 => ?_) (fun c_35 => by exact absurd c_35 (by decide))
      refine r_iincN_5 dX4_find_102 ?_
      refine r_goto 18 dX4_find_105 (by decide) ?_
      rw [if_neg hRE, List.append_nil] at hss
      exact ih (e + 1) h (by omega) nc tc (by rw [hss]; exact rc) fr
set_option maxRecDepth 100000 in
set_option maxHeartbeats 4000000 in
theorem k_find {r a o : Nat} (hR : isR r) (hT : isT a) (hN : isN o) {t : NT} (ok : okT t) {op : Nat → Bool} {s : TS} (tw : TW (NT.E t) (NT.fi t) (NT.se t) op s) (both : ∀ e, e < NT.E t → op e = true → (s.2.2.2 (NT.fi t e) = true ↔ s.2.2.2 (NT.se t e) = true)) {bits : Int32} (hop : ∀ e, e < NT.E t → bt bits e = op e) {h : PH} (nc : NetC h o t) (tc : TreeC h a (NT.fi t) (NT.se t) s) : Con mX4_find 3 [.ref r, .ref o, .ref a, .int bits] h (fun z h' => z = none ∧ (RingsC h' r (ringsS (NT.fi t) (NT.se t) op s (NT.E t)) ∧ Fr (rgR r) h h')) := by
  refine Con.mk (by decide) ?_
  show RT _ _ 0 [some (.ref r), some (.ref o), some (.ref a), some (.int bits), none, none] [] _ _
  refine r_aload_0 dX4_find_0 ?_
  refine r_iconst (v := nI 0) dX4_find_1 (by decide) ?_
  refine r_putI dX4_find_2 fl_X4_24 (hR.s 0 (by decide)) rfl rfl ?_
  refine r_iload_3 dX4_find_5 ?_
  refine r_aload_2 dX4_find_6 ?_
  refine r_getI dX4_find_7 fl_X4_28 (hT.s 0 (by decide)) ?_
  refine r_iconst (v := (-1)) dX4_find_10 (by decide) ?_
  refine r_ixor dX4_find_11 ?_
  refine r_iand dX4_find_12 ?_
  refine r_istore_4 dX4_find_13 ?_
  refine r_iconst (v := nI 0) dX4_find_15 (by decide) ?_
  refine r_istore_5 dX4_find_16 ?_
  refine find_loop hR hT hN ok tw both bits _ (fun e he => ?_) h (NT.E t) 0 _ (by omega) (nc.fr (Fr.rf.pI rgR_0) (nr_apart hN hR)) (tc.fr (Fr.rf.pI rgR_0) (tr_apart hT hR)) ⟨pI_eq, fun k hk => by simp [ringsS] at hk⟩ (Fr.rf.pI rgR_0)
  have hE14 := ok.2.2.1
  have ta : (pI h r 0 (nI 0)).1 a 1 = h.1 a 1 := by rw [(Fr.rf.pI rgR_0 : Fr (rgR r) h (pI h r 0 (nI 0))) a (tr_apart hT hR 0 (by omega)) |>.1]
  rw [b_and, b_not _ (by omega), hop e he, ta, isTE_bit tc tw ok.ends hE14 he]

