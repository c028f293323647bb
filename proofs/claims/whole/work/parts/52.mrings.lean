/-! ===== the reference: isTree, above, deepOf, laysRingEdge, laysRing, the rings of laysNet ===== -/
def rgM : Nat → Prop := fun y => y = 88 ∨ y = 89 ∨ y = 90 ∨ y = 92
def noF : Nat → Prop := fun _ => False
theorem rgM_s : ∀ x, rgM x → slS x := fun x q => by rcases q with rfl | rfl | rfl | rfl <;> exact ⟨by decide, by decide⟩
theorem noF_s : ∀ x, noF x → slF x := fun _ q => q.elim
theorem TreeM.rg {F : Nat → Prop} {h h' : PH} {s : TS} (c : TreeM h s) (f : FM rgM F h h') (h1 : ¬ F 29) (h2 : ¬ F 32) : TreeM h' s :=
  c.ext (f.1 29 h1) (f.1 32 h2) (f.2.1 85 (by decide) (fun q => by rcases q with q | q | q | q <;> omega)).1 (f.2.1 86 (by decide) (fun q => by rcases q with q | q | q | q <;> omega)).1
def RKM (h h' : PH) (c : Nat) : Prop := (∀ k, k ≠ c → h'.1 90 k = h.1 90 k) ∧ ∀ j, (j < 14 * c ∨ 14 * c + 14 ≤ j) → h'.1 88 j = h.1 88 j ∧ h'.1 89 j = h.1 89 j
theorem RKM.rf {h : PH} {c : Nat} : RKM h h c := ⟨fun _ _ => rfl, fun _ _ => ⟨rfl, rfl⟩⟩
theorem RKM.tr {h h' h'' : PH} {c : Nat} (a : RKM h h' c) (b : RKM h' h'' c) : RKM h h'' c := ⟨fun k hk => (b.1 k hk).trans (a.1 k hk), fun j hj => ⟨(b.2 j hj).1.trans (a.2 j hj).1, (b.2 j hj).2.trans (a.2 j hj).2⟩⟩
theorem RAtM.keep {h h' : PH} {c k : Nat} {L : RG} (a : RAtM h k L) (b : RKM h h' c) (hk : k ≠ c) (hl : L.length ≤ 14) : RAtM h' k L := by
  refine ⟨by rw [b.1 k hk]; exact a.1, fun i hi => ?_⟩
  have := b.2 (14 * k + i) (by omega)
  rw [this.1, this.2]; exact a.2 i hi
theorem TW.wDn {E : Nat} {fi se : Nat → Nat} {op : Nat → Bool} {s : TS} (tw : TW E fi se op s) (hE : endsOK E fi se) (hE14 : E ≤ 14) {j : Nat} (hj : s.2.2.2 j = true) (h0 : j ≠ 0) : (if fi (pe s j) = upj fi se s j then (1 : Int32) else -1) = wD se s j := by
  have u := tw.upm hE hE14 hj h0
  have hn := (hE _ u.2.2.1).2.2
  unfold wD
  rcases u.2.2.2.2.2 with z | z
  · rw [if_neg (fun q => hn (q.trans z.2.symm)), if_neg (fun q => hn (z.1.trans q.symm))]
  · rw [if_pos z.2, if_pos z.1]
theorem nI_nz {x : Nat} (h : x < 14) (h0 : x ≠ 0) : nI x ≠ 0 := (by decide +kernel : ∀ x, x < 14 → x ≠ 0 → nI x ≠ 0) x h h0
set_option maxRecDepth 100000 in
set_option maxHeartbeats 4000000 in
theorem q_isTree {h : PH} {t : NT} (ok : okT t) (c : NetM h t) {e : Nat} (he : e < NT.E t) {s : TS} (tc : TreeM h s) : ConF mX8_isTree 3 [.ref 74, .int (nI e)] h (some (.int (bI ((opS (snOf t) (h.1 74 28) e && bt (h.1 74 29) (NT.fi t e)) && isTE (NT.fi t) (NT.se t) s e)))) h := by
  refine Con.mk (by decide) ?_
  show RT _ _ 0 [some (.ref 74), some (.int (nI e))] [] _ _
  have he14 : e < 14 := by have := ok.2.2.1; omega
  have hj9 := ok.2.1
  obtain ⟨ee1, ee2, ee3⟩ := ok.ends e he
  obtain ⟨n1, n2, n3, n4, n5, n6⟩ := c.2.2.2.2.2.2 e he
  refine r_aload_0 dX8_isTree_0 ?_
  refine r_iload_1 dX8_isTree_1 ?_
  refine r_cV1 mX8_isLive dX8_isTree_2 ml_X8_275 mo_X8_isLive rfl (q_isLive ok c he) (by decide) ?_
  refine r_if_eq 42 dX8_isTree_5 (by decide) (fun c_5 => ?_) (fun c_5 => ?_)
  · refine r_iconst (v := 0) dX8_isTree_42 (by decide) ?_
    refine r_zret dX8_isTree_43 rfl rfl ?_
    refine ⟨?_, rfl⟩
    cases q1 : (opS (snOf t) (h.1 74 28) e && bt (h.1 74 29) (NT.fi t e)) <;> simp_all [bI, isTE]
  · refine r_aload_0 dX8_isTree_8 ?_
    refine r_getR (a := 85) dX8_isTree_9 fl_X8_46 rfl rfl ?_
    refine r_aload_0 dX8_isTree_12 ?_
    refine r_getR (a := 79) dX8_isTree_13 fl_X8_28 rfl rfl ?_
    refine r_iload_1 dX8_isTree_16 ?_
    refine r_ialdN dX8_isTree_17 rfl (by omega) ?_
    rw [n1]
    refine r_ialdN dX8_isTree_18 rfl (by omega) ?_
    rw [tc.2.2.2 _ (by omega)]
    refine r_iload_1 dX8_isTree_19 ?_
    refine r_icmp_eq 38 dX8_isTree_20 (by decide) (fun c_20 => ?_) (fun c_20 => ?_)
    · refine r_iconst (v := 1) dX8_isTree_38 (by decide) ?_
      refine r_goto 43 dX8_isTree_39 (by decide) ?_
      refine r_zret dX8_isTree_43 rfl rfl ?_
      refine ⟨?_, rfl⟩
      cases q1 : (opS (snOf t) (h.1 74 28) e && bt (h.1 74 29) (NT.fi t e)) <;> simp_all [bI, isTE]
    · refine r_aload_0 dX8_isTree_23 ?_
      refine r_getR (a := 85) dX8_isTree_24 fl_X8_46 rfl rfl ?_
      refine r_aload_0 dX8_isTree_27 ?_
      refine r_getR (a := 80) dX8_isTree_28 fl_X8_31 rfl rfl ?_
      refine r_iload_1 dX8_isTree_31 ?_
      refine r_ialdN dX8_isTree_32 rfl (by omega) ?_
      rw [n2]
      refine r_ialdN dX8_isTree_33 rfl (by omega) ?_
      rw [tc.2.2.2 _ (by omega)]
      refine r_iload_1 dX8_isTree_34 ?_
      refine r_icmp_ne 42 dX8_isTree_35 (by decide) (fun c_35 => ?_) (fun c_35 => ?_)
      · refine r_iconst (v := 0) dX8_isTree_42 (by decide) ?_
        refine r_zret dX8_isTree_43 rfl rfl ?_
        refine ⟨?_, rfl⟩
        cases q1 : (opS (snOf t) (h.1 74 28) e && bt (h.1 74 29) (NT.fi t e)) <;> simp_all [bI, isTE]
      · refine r_iconst (v := 1) dX8_isTree_38 (by decide) ?_
        refine r_goto 43 dX8_isTree_39 (by decide) ?_
        refine r_zret dX8_isTree_43 rfl rfl ?_
        refine ⟨?_, rfl⟩
        cases q1 : (opS (snOf t) (h.1 74 28) e && bt (h.1 74 29) (NT.fi t e)) <;> simp_all [bI, isTE]

set_option maxRecDepth 100000 in
set_option maxHeartbeats 4000000 in
theorem q_above {h : PH} {t : NT} (ok : okT t) (c : NetM h t) {op : Nat → Bool} {s : TS} (tw : TW (NT.E t) (NT.fi t) (NT.se t) op s) (tc : TreeM h s) {j : Nat} (hj : s.2.2.2 j = true) (h0 : j ≠ 0) : ConF mX8_above 2 [.ref 74, .int (nI j)] h (some (.int (nI (upj (NT.fi t) (NT.se t) s j)))) h := by
  refine Con.mk (by decide) ?_
  show RT _ _ 0 [some (.ref 74), some (.int (nI j))] [] _ _
  have h9 := tw.lt9 hj
  have hpe := (tw.upm ok.ends ok.2.2.1 hj h0).2.2.1
  refine r_aload_0 dX8_above_0 ?_
  refine r_aload_0 dX8_above_1 ?_
  refine r_getR (a := 85) dX8_above_2 fl_X8_46 rfl rfl ?_
  refine r_iload_1 dX8_above_5 ?_
  refine r_ialdN dX8_above_6 rfl (by omega) ?_
  rw [tc.at tw ok.ends ok.2.2.1 hj h0]
  refine r_iload_1 dX8_above_7 ?_
  refine r_cV2 mX8_otherEnd dX8_above_8 ml_X8_281 mo_X8_otherEnd rfl (q_otherEnd ok c hpe h9) (by decide) ?_
  refine r_iret dX8_above_11 rfl ?_
  exact ⟨rfl, rfl⟩

set_option maxRecDepth 100000 in
set_option maxHeartbeats 4000000 in
theorem deep_loop {h : PH} {t : NT} (ok : okT t) (c : NetM h t) {op : Nat → Bool} {s : TS} (tw : TW (NT.E t) (NT.fi t) (NT.se t) op s) (tc : TreeM h s) : ∀ (n j d : Nat), s.2.2.2 j = true → dpj (NT.fi t) (NT.se t) s j = n → RT mX8_deepOf 3 4 [some (.ref 74), none, some (.int (nI d)), some (.int (nI j))] [] h (fun a b => a = some (.int (nI (d + n))) ∧ b = h) := by
  intro n
  induction n with
  | zero =>
    intro j d hj hd
    have h0 := tw.dp_z ok.ends ok.2.2.1 hj hd
    subst h0
    refine r_iload_3 dX8_deepOf_4 ?_
    refine r_if_eq 20 dX8_deepOf_5 (by decide) (fun c_5 => ?_) (fun c_5 => by exact absurd rfl c_5)
    refine r_iload_2 dX8_deepOf_20 ?_
    refine r_iret dX8_deepOf_21 rfl ?_
    exact ⟨rfl, rfl⟩
  | succ n ih =>
    intro j d hj hd
    have h9 := tw.lt9 hj
    have h0 : j ≠ 0 := fun q => by rw [q, TW.dp0] at hd; omega
    have um := tw.upm ok.ends ok.2.2.1 hj h0
    refine r_iload_3 dX8_deepOf_4 ?_
    refine r_if_eq 20 dX8_deepOf_5 (by decide) (fun c_5 => by exact absurd c_5 (nI_nz (by omega) h0)) (fun c_5 => ?_)
    refine r_iincN_2 dX8_deepOf_8 ?_
    refine r_aload_0 dX8_deepOf_11 ?_
    refine r_iload_3 dX8_deepOf_12 ?_
    refine r_cV1 mX8_above dX8_deepOf_13 ml_X8_285 mo_X8_above rfl (q_above ok c tw tc hj h0) (by decide) ?_
    refine r_istore_3 dX8_deepOf_16 ?_
    refine r_goto 4 dX8_deepOf_17 (by decide) ?_
    have := ih (upj (NT.fi t) (NT.se t) s j) (d + 1) um.1 (by omega)
    rw [show d + 1 + n = d + (n + 1) by omega] at this
    exact this
set_option maxRecDepth 100000 in
set_option maxHeartbeats 4000000 in
theorem q_deepOf {h : PH} {t : NT} (ok : okT t) (c : NetM h t) {op : Nat → Bool} {s : TS} (tw : TW (NT.E t) (NT.fi t) (NT.se t) op s) (tc : TreeM h s) {j : Nat} (hj : s.2.2.2 j = true)  : ConF mX8_deepOf 3 [.ref 74, .int (nI j)] h (some (.int (nI (dpj (NT.fi t) (NT.se t) s j)))) h := by
  refine Con.mk (by decide) ?_
  show RT _ _ 0 [some (.ref 74), some (.int (nI j)), none, none] [] _ _
  refine r_iconst (v := nI 0) dX8_deepOf_0 (by decide) ?_
  refine r_istore_2 dX8_deepOf_1 ?_
  refine r_iload_1 dX8_deepOf_2 ?_
  refine r_istore_3 dX8_deepOf_3 ?_
  have := deep_loop ok c tw tc (dpj (NT.fi t) (NT.se t) s j) j 0 hj rfl
  rw [Nat.zero_add] at this
  refine RT.sub (lv' := [some (.ref 74), none, some (.int (nI 0)), some (.int (nI j))]) (by simp [lsub]) this

set_option maxRecDepth 100000 in
set_option maxHeartbeats 4000000 in
theorem q_layE {h : PH} {t : NT} (ok : okT t) (c : NetM h t) {e : Nat} (he : e < NT.E t) {k : Nat} (hk : k < 14) {x : Nat} (hx : x < 9) {L : RG} (ra : RAtM h k L) (hl : L.length < 14) : Con mX8_laysRingEdge 1 [.ref 74, .int (nI k), .int (nI e), .int (nI x)] h (fun a h' => a = none ∧ (RAtM h' k (L ++ [(e, (if NT.fi t e = x then (1 : Int32) else -1))]) ∧ RKM h h' k ∧ h'.1 92 = h.1 92 ∧ FM rgM noF h h')) := by
  refine Con.mk (by decide) ?_
  show RT _ _ 0 [some (.ref 74), some (.int (nI k)), some (.int (nI e)), some (.int (nI x))] [] _ _
  have he14 : e < 14 := by have := ok.2.2.1; omega
  have hj9 := ok.2.1
  obtain ⟨ee1, ee2, ee3⟩ := ok.ends e he
  obtain ⟨n1, n2, n3, n4, n5, n6⟩ := c.2.2.2.2.2.2 e he
  refine r_aload_0 dX8_laysRingEdge_0 ?_
  refine r_getR (a := 88) dX8_laysRingEdge_1 fl_X8_56 rfl rfl ?_
  refine r_bipush (v := nI 14) dX8_laysRingEdge_4 (by decide) ?_
  refine r_iload_1 dX8_laysRingEdge_6 ?_
  refine r_imul dX8_laysRingEdge_7 ?_
  refine r_aload_0 dX8_laysRingEdge_8 ?_
  refine r_getR (a := 90) dX8_laysRingEdge_9 fl_X8_62 rfl rfl ?_
  refine r_iload_1 dX8_laysRingEdge_12 ?_
  refine r_ialdN dX8_laysRingEdge_13 rfl (by omega) ?_
  rw [ra.1]
  refine r_iadd dX8_laysRingEdge_14 ?_
  rw [pk_mul, nI_add]
  refine r_iload_2 dX8_laysRingEdge_15 ?_
  refine r_iastN dX8_laysRingEdge_16 rfl (by omega) ?_
  refine r_aload_0 dX8_laysRingEdge_17 ?_
  refine r_getR (a := 89) dX8_laysRingEdge_18 fl_X8_59 rfl rfl ?_
  refine r_bipush (v := nI 14) dX8_laysRingEdge_21 (by decide) ?_
  refine r_iload_1 dX8_laysRingEdge_23 ?_
  refine r_imul dX8_laysRingEdge_24 ?_
  refine r_aload_0 dX8_laysRingEdge_25 ?_
  refine r_getR (a := 90) dX8_laysRingEdge_26 fl_X8_62 rfl rfl ?_
  refine r_iload_1 dX8_laysRingEdge_29 ?_
  refine r_ialdN dX8_laysRingEdge_30 rfl (by omega) ?_
  simp (decide := true) only [pI_1, pI_2, pL_1, pL_2, pA_1, pA_2, pB_1, pB_2, Nat.add_left_cancel_iff, Nat.add_right_cancel_iff, Nat.add_eq_left, Nat.left_eq_add, true_and, false_and, and_false, and_true, and_self, if_true, if_false, ite_true, ite_false]
  rw [ra.1]
  refine r_iadd dX8_laysRingEdge_31 ?_
  rw [pk_mul, nI_add]
  refine r_aload_0 dX8_laysRingEdge_32 ?_
  refine r_getR (a := 79) dX8_laysRingEdge_33 fl_X8_28 rfl rfl ?_
  refine r_iload_2 dX8_laysRingEdge_36 ?_
  refine r_ialdN dX8_laysRingEdge_37 rfl (by omega) ?_
  simp (decide := true) only [pI_1, pI_2, pL_1, pL_2, pA_1, pA_2, pB_1, pB_2, Nat.add_left_cancel_iff, Nat.add_right_cancel_iff, Nat.add_eq_left, Nat.left_eq_add, true_and, false_and, and_false, and_true, and_self, if_true, if_false, ite_true, ite_false]
  rw [n1]
  refine r_iload_3 dX8_laysRingEdge_38 ?_
  refine r_icmpN_ne 46 dX8_laysRingEdge_39 (by decide) (by omega) (by omega) (fun c_39 => ?_) (fun c_39 => ?_)
  · refine r_iconst (v := (-1)) dX8_laysRingEdge_46 (by decide) ?_
    refine r_iastN dX8_laysRingEdge_47 rfl (by omega) ?_
    refine r_aload_0 dX8_laysRingEdge_48 ?_
    refine r_getR (a := 90) dX8_laysRingEdge_49 fl_X8_62 rfl rfl ?_
    refine r_iload_1 dX8_laysRingEdge_52 ?_
    refine r_dup2ir dX8_laysRingEdge_53 ?_
    refine r_ialdN dX8_laysRingEdge_54 rfl (by omega) ?_
    simp (decide := true) only [pI_1, pI_2, pL_1, pL_2, pA_1, pA_2, pB_1, pB_2, Nat.add_left_cancel_iff, Nat.add_right_cancel_iff, Nat.add_eq_left, Nat.left_eq_add, true_and, false_and, and_false, and_true, and_self, if_true, if_false, ite_true, ite_false]
    rw [ra.1]
    refine r_iconst (v := 1) dX8_laysRingEdge_55 (by decide) ?_
    refine r_iadd dX8_laysRingEdge_56 ?_
    refine r_iastN dX8_laysRingEdge_57 rfl (by omega) ?_
    refine r_vret dX8_laysRingEdge_58 rfl ?_
    refine ⟨rfl, ⟨?_, fun i hi => ?_⟩, ⟨fun k' hk' => ?_, fun j hj => ?_⟩, ?_, ((FM.rf.pI (by decide) (Or.inl rfl)).pI (by decide) (Or.inr (Or.inl rfl))).pI (by decide) (Or.inr (Or.inr (Or.inl rfl)))⟩
    · simp (decide := true) only [pI_1, pI_2, pL_1, pL_2, pA_1, pA_2, pB_1, pB_2, Nat.add_left_cancel_iff, Nat.add_right_cancel_iff, Nat.add_eq_left, Nat.left_eq_add, true_and, false_and, and_false, and_true, and_self, if_true, if_false, ite_true, ite_false]
      rw [nI_1]; simp
    · simp (decide := true) only [pI_1, pI_2, pL_1, pL_2, pA_1, pA_2, pB_1, pB_2, Nat.add_left_cancel_iff, Nat.add_right_cancel_iff, Nat.add_eq_left, Nat.left_eq_add, true_and, false_and, and_false, and_true, and_self, if_true, if_false, ite_true, ite_false]
      rw [List.length_append] at hi
      simp only [List.length_cons, List.length_nil] at hi
      by_cases q : i = L.length
      · subst q
        rw [gq_r]; exact ⟨by simp, by simp [c_39]⟩
      · rw [gq_l (by omega), if_neg (by omega), if_neg (by omega)]; exact ra.2 i (by omega)
    · simp (decide := true) only [pI_1, pI_2, pL_1, pL_2, pA_1, pA_2, pB_1, pB_2, Nat.add_left_cancel_iff, Nat.add_right_cancel_iff, Nat.add_eq_left, Nat.left_eq_add, true_and, false_and, and_false, and_true, and_self, if_true, if_false, ite_true, ite_false]
      rw [if_neg hk']
    · simp (decide := true) only [pI_1, pI_2, pL_1, pL_2, pA_1, pA_2, pB_1, pB_2, Nat.add_left_cancel_iff, Nat.add_right_cancel_iff, Nat.add_eq_left, Nat.left_eq_add, true_and, false_and, and_false, and_true, and_self, if_true, if_false, ite_true, ite_false]
      rw [if_neg (by omega), if_neg (by omega)]; exact ⟨rfl, rfl⟩
    · funext j
      simp (decide := true) only [pI_1, pI_2, pL_1, pL_2, pA_1, pA_2, pB_1, pB_2, Nat.add_left_cancel_iff, Nat.add_right_cancel_iff, Nat.add_eq_left, Nat.left_eq_add, true_and, false_and, and_false, and_true, and_self, if_true, if_false, ite_true, ite_false]
  · refine r_iconst (v := 1) dX8_laysRingEdge_42 (by decide) ?_
    refine r_goto 47 dX8_laysRingEdge_43 (by decide) ?_
    refine r_iastN dX8_laysRingEdge_47 rfl (by omega) ?_
    refine r_aload_0 dX8_laysRingEdge_48 ?_
    refine r_getR (a := 90) dX8_laysRingEdge_49 fl_X8_62 rfl rfl ?_
    refine r_iload_1 dX8_laysRingEdge_52 ?_
    refine r_dup2ir dX8_laysRingEdge_53 ?_
    refine r_ialdN dX8_laysRingEdge_54 rfl (by omega) ?_
    simp (decide := true) only [pI_1, pI_2, pL_1, pL_2, pA_1, pA_2, pB_1, pB_2, Nat.add_left_cancel_iff, Nat.add_right_cancel_iff, Nat.add_eq_left, Nat.left_eq_add, true_and, false_and, and_false, and_true, and_self, if_true, if_false, ite_true, ite_false]
    rw [ra.1]
    refine r_iconst (v := 1) dX8_laysRingEdge_55 (by decide) ?_
    refine r_iadd dX8_laysRingEdge_56 ?_
    refine r_iastN dX8_laysRingEdge_57 rfl (by omega) ?_
    refine r_vret dX8_laysRingEdge_58 rfl ?_
    refine ⟨rfl, ⟨?_, fun i hi => ?_⟩, ⟨fun k' hk' => ?_, fun j hj => ?_⟩, ?_, ((FM.rf.pI (by decide) (Or.inl rfl)).pI (by decide) (Or.inr (Or.inl rfl))).pI (by decide) (Or.inr (Or.inr (Or.inl rfl)))⟩
    · simp (decide := true) only [pI_1, pI_2, pL_1, pL_2, pA_1, pA_2, pB_1, pB_2, Nat.add_left_cancel_iff, Nat.add_right_cancel_iff, Nat.add_eq_left, Nat.left_eq_add, true_and, false_and, and_false, and_true, and_self, if_true, if_false, ite_true, ite_false]
      rw [nI_1]; simp
    · simp (decide := true) only [pI_1, pI_2, pL_1, pL_2, pA_1, pA_2, pB_1, pB_2, Nat.add_left_cancel_iff, Nat.add_right_cancel_iff, Nat.add_eq_left, Nat.left_eq_add, true_and, false_and, and_false, and_true, and_self, if_true, if_false, ite_true, ite_false]
      rw [List.length_append] at hi
      simp only [List.length_cons, List.length_nil] at hi
      by_cases q : i = L.length
      · subst q
        rw [gq_r]; exact ⟨by simp, by simp [c_39]⟩
      · rw [gq_l (by omega), if_neg (by omega), if_neg (by omega)]; exact ra.2 i (by omega)
    · simp (decide := true) only [pI_1, pI_2, pL_1, pL_2, pA_1, pA_2, pB_1, pB_2, Nat.add_left_cancel_iff, Nat.add_right_cancel_iff, Nat.add_eq_left, Nat.left_eq_add, true_and, false_and, and_false, and_true, and_self, if_true, if_false, ite_true, ite_false]
      rw [if_neg hk']
    · simp (decide := true) only [pI_1, pI_2, pL_1, pL_2, pA_1, pA_2, pB_1, pB_2, Nat.add_left_cancel_iff, Nat.add_right_cancel_iff, Nat.add_eq_left, Nat.left_eq_add, true_and, false_and, and_false, and_true, and_self, if_true, if_false, ite_true, ite_false]
      rw [if_neg (by omega), if_neg (by omega)]; exact ⟨rfl, rfl⟩
    · funext j
      simp (decide := true) only [pI_1, pI_2, pL_1, pL_2, pA_1, pA_2, pB_1, pB_2, Nat.add_left_cancel_iff, Nat.add_right_cancel_iff, Nat.add_eq_left, Nat.left_eq_add, true_and, false_and, and_false, and_true, and_self, if_true, if_false, ite_true, ite_false]

set_option maxRecDepth 100000 in
set_option maxHeartbeats 4000000 in
theorem mr2 {t : NT} (ok : okT t) {op : Nat → Bool} {s : TS} (tw : TW (NT.E t) (NT.fi t) (NT.se t) op s) {c : Nat} (hc : c < 14) (h0 : PH) {Q : Option Value → PH → Prop} (d : List Nat) (hd : ∀ v ∈ d, s.2.2.2 v = true ∧ v ≠ 0) : ∀ (n : Nat) (u : RG) (h : PH), n ≤ d.length → NetM h t → RAtM h c u → (∀ i, i < d.length → h.1 92 i = nI (d.getD i 0)) → u.length + n ≤ 9 → TreeM h s → RKM h0 h c → FM rgM noF h0 h → (∀ h', (RAtM h' c (u ++ dnL (NT.se t) s (d.take n)) → RKM h0 h' c → FM rgM noF h0 h' → RT mX8_laysRing 4 151 [some (.ref 74), none, none, none, none, none, none] [] h' Q)) → RT mX8_laysRing 4 112 [some (.ref 74), none, some (.int (nI c)), none, none, none, some (.int (nI n - 1))] [] h Q := by
  have hE14 := ok.2.2.1
  intro n
  induction n with
  | zero =>
    intro u h hn nc ra hdw hlen tc kp fr K
    refine r_iload_6 dX8_laysRing_112 ?_
    refine r_if_lt 151 dX8_laysRing_114 (by decide) (fun c_114 => ?_) (fun c_114 => by exact absurd (show nI 0 - 1 < 0 by decide) c_114)
    refine RT.sub (lv' := [some (.ref 74), none, none, none, none, none, none]) (by simp [lsub]) ?_
    exact K h (by simpa [dnL] using ra) kp fr
  | succ n ih =>
    intro u h hn nc ra hdw hlen tc kp fr K
    have hdm : d.getD n 0 ∈ d := by rw [List.getD_eq_getElem?_getD, List.getElem?_eq_getElem (show n < d.length by omega)]; exact List.getElem_mem _
    have hv := hd _ hdm
    have h9 := tw.lt9 hv.1
    have ta := tc.at tw ok.ends hE14 hv.1 hv.2
    have um := tw.upm ok.ends hE14 hv.1 hv.2
    have hu9 := tw.lt9 um.1
    rw [dnL_take (by omega)] at K
    rw [nI_pred]
    have hn9 : n < 9 := by omega
    refine r_iload_6 dX8_laysRing_112 ?_
    refine r_if_lt 151 dX8_laysRing_114 (by decide) (fun c_114 => by exact absurd c_114 (nI_pos (by omega))) (fun c_114 => ?_)
    refine r_aload_0 dX8_laysRing_117 ?_
    refine r_iload_2 dX8_laysRing_118 ?_
    refine r_aload_0 dX8_laysRing_119 ?_
    refine r_getR (a := 85) dX8_laysRing_120 fl_X8_46 rfl rfl ?_
    refine r_aload_0 dX8_laysRing_123 ?_
    refine r_getR (a := 92) dX8_laysRing_124 fl_X8_68 rfl rfl ?_
    refine r_iload_6 dX8_laysRing_127 ?_
    refine r_ialdN dX8_laysRing_129 rfl (by omega) ?_
    rw [hdw n (by omega)]
    refine r_ialdN dX8_laysRing_130 rfl (by omega) ?_
    rw [ta]
    refine r_aload_0 dX8_laysRing_131 ?_
    refine r_aload_0 dX8_laysRing_132 ?_
    refine r_getR (a := 92) dX8_laysRing_133 fl_X8_68 rfl rfl ?_
    refine r_iload_6 dX8_laysRing_136 ?_
    refine r_ialdN dX8_laysRing_138 rfl (by omega) ?_
    rw [hdw n (by omega)]
    refine r_cV1 mX8_above dX8_laysRing_139 ml_X8_285 mo_X8_above rfl (q_above ok nc tw tc hv.1 hv.2) (by decide) ?_
    refine r_cWQ3 mX8_laysRingEdge dX8_laysRing_142 ml_X8_291 mo_X8_laysRingEdge rfl (q_layE ok nc um.2.2.1 hc hu9 ra (by omega)) (by decide) (fun h1 p1 => ?_)
    obtain ⟨r1, k1, d1, f1⟩ := p1
    rw [tw.wDn ok.ends hE14 hv.1 hv.2] at r1
    refine r_iinc_6 (v := (-1)) dX8_laysRing_145 (by decide) ?_
    rw [← Int32.sub_eq_add_neg]
    refine r_goto 112 dX8_laysRing_148 (by decide) ?_
    rw [show u ++ (pe s (d.getD n 0), wD (NT.se t) s (d.getD n 0)) :: dnL (NT.se t) s (d.take n) = (u ++ [(pe s (d.getD n 0), wD (NT.se t) s (d.getD n 0))]) ++ dnL (NT.se t) s (d.take n) by simp] at K
    exact ih (u ++ [(pe s (d.getD n 0), wD (NT.se t) s (d.getD n 0))]) h1 (by omega) (nc.fm (f1.wk rgM_s noF_s)) r1 (fun i hi => by rw [d1]; exact hdw i hi) (by simp; omega) (tc.rg f1 id id) (kp.tr k1) (fr.tr f1) K

set_option maxRecDepth 100000 in
set_option maxHeartbeats 4000000 in
theorem mr1 {t : NT} (ok : okT t) {op : Nat → Bool} {s : TS} (tw : TW (NT.E t) (NT.fi t) (NT.se t) op s) {c : Nat} (hc : c < 14) (h0 : PH) {Q : Option Value → PH → Prop} : ∀ (m x y : Nat) (u : RG) (d : List Nat) (h : PH), (PT (NT.fi t) (NT.se t) s x y).1.length + (PT (NT.fi t) (NT.se t) s x y).2.length = m → s.2.2.2 x = true → s.2.2.2 y = true → NetM h t → RAtM h c u → (∀ i, i < d.length → h.1 92 i = nI (d.getD i 0)) → (∀ v ∈ d, s.2.2.2 v = true ∧ v ≠ 0) → u.length + d.length + m ≤ 9 → TreeM h s → RKM h0 h c → FM rgM noF h0 h → (∀ h', (RAtM h' c (u ++ (PT (NT.fi t) (NT.se t) s x y).1 ++ dnL (NT.se t) s (d ++ (PT (NT.fi t) (NT.se t) s x y).2)) → RKM h0 h' c → FM rgM noF h0 h' → RT mX8_laysRing 4 151 [some (.ref 74), none, none, none, none, none, none] [] h' Q)) → RT mX8_laysRing 4 42 [some (.ref 74), none, some (.int (nI c)), some (.int (nI x)), some (.int (nI y)), some (.int (nI d.length)), none] [] h Q := by
  have hE14 := ok.2.2.1
  have hE := ok.ends
  intro m
  induction m with
  | zero =>
    intro x y u d h hm hx hy nc ra hdw hd hlen tc kp fr K
    have hx9 := tw.lt9 hx
    have hy9 := tw.lt9 hy
    have pt := PT_eq tw hE hE14 hx hy
    have hxy : x = y := by
      by_cases q : x = y
      · exact q
      · rw [if_neg q] at pt
        split at pt <;> (rw [pt] at hm; simp at hm)
    rw [if_pos hxy] at pt
    rw [pt] at K
    refine r_iload_3 dX8_laysRing_42 ?_
    refine r_iload_4 dX8_laysRing_43 ?_
    refine r_icmpN_eq 106 dX8_laysRing_45 (by decide) (by omega) (by omega) (fun c_45 => ?_) (fun c_45 => by exact absurd hxy c_45)
    refine r_iload_5 dX8_laysRing_106 ?_
    refine r_iconst (v := 1) dX8_laysRing_108 (by decide) ?_
    refine r_isub dX8_laysRing_109 ?_
    refine r_istore_6 dX8_laysRing_110 ?_
    refine RT.sub (lv' := [some (.ref 74), none, some (.int (nI c)), none, none, none, some (.int (nI d.length - 1))]) (by simp [lsub]) ?_
    refine mr2 ok tw hc h0 d hd d.length u h (Nat.le_refl _) nc ra hdw (by omega) tc kp fr ?_
    rw [List.take_length]
    simpa using K
  | succ m ih =>
    intro x y u d h hm hx hy nc ra hdw hd hlen tc kp fr K
    have hx9 := tw.lt9 hx
    have hy9 := tw.lt9 hy
    have pt := PT_eq tw hE hE14 hx hy
    have hxy : ¬ x = y := fun q => by rw [if_pos q] at pt; rw [pt] at hm; simp at hm
    rw [if_neg hxy] at pt
    have ps := PT_step tw hE hE14 hx hy hxy
    have d8x := tw.dp8 hE hE14 hx
    have d8y := tw.dp8 hE hE14 hy
    by_cases hdp : dpj (NT.fi t) (NT.se t) s y ≤ dpj (NT.fi t) (NT.se t) s x
    · rw [if_pos hdp] at pt
      have um := tw.upm hE hE14 hx (ps.1 hdp)
      have ta := tc.at tw hE hE14 hx (ps.1 hdp)
      rw [pt] at hm K
      simp only [List.length_cons] at hm
      refine r_iload_3 dX8_laysRing_42 ?_
      refine r_iload_4 dX8_laysRing_43 ?_
      refine r_icmpN_eq 106 dX8_laysRing_45 (by decide) (by omega) (by omega) (fun c_45 => by exact absurd c_45 hxy) (fun c_45 => ?_)
      refine r_aload_0 dX8_laysRing_48 ?_
      refine r_iload_3 dX8_laysRing_49 ?_
      refine r_cV1 mX8_deepOf dX8_laysRing_50 ml_X8_295 mo_X8_deepOf rfl (q_deepOf ok nc tw tc hx) (by decide) ?_
      refine r_aload_0 dX8_laysRing_53 ?_
      refine r_iload_4 dX8_laysRing_54 ?_
      refine r_cV1 mX8_deepOf dX8_laysRing_56 ml_X8_295 mo_X8_deepOf rfl (q_deepOf ok nc tw tc hy) (by decide) ?_
      refine r_icmpN_lt 83 dX8_laysRing_59 (by decide) (by omega) (by omega) (fun c_59 => by omega) (fun c_59 => ?_)
      refine r_aload_0 dX8_laysRing_62 ?_
      refine r_iload_2 dX8_laysRing_63 ?_
      refine r_aload_0 dX8_laysRing_64 ?_
      refine r_getR (a := 85) dX8_laysRing_65 fl_X8_46 rfl rfl ?_
      refine r_iload_3 dX8_laysRing_68 ?_
      refine r_ialdN dX8_laysRing_69 rfl (by omega) ?_
      rw [ta]
      refine r_iload_3 dX8_laysRing_70 ?_
      refine r_cWQ3 mX8_laysRingEdge dX8_laysRing_71 ml_X8_291 mo_X8_laysRingEdge rfl (q_layE ok nc um.2.2.1 hc hx9 ra (by omega)) (by decide) (fun h1 p1 => ?_)
      obtain ⟨r1, k1, d1, f1⟩ := p1
      have nc1 := nc.fm (f1.wk rgM_s noF_s)
      have tc1 : TreeM h1 s := tc.rg f1 id id
      refine r_aload_0 dX8_laysRing_74 ?_
      refine r_iload_3 dX8_laysRing_75 ?_
      refine r_cV1 mX8_above dX8_laysRing_76 ml_X8_285 mo_X8_above rfl (q_above ok nc1 tw tc1 hx (ps.1 hdp)) (by decide) ?_
      refine r_istore_3 dX8_laysRing_79 ?_
      refine r_goto 42 dX8_laysRing_80 (by decide) ?_
      have := ih (upj (NT.fi t) (NT.se t) s x) y (u ++ [(pe s x, wU (NT.fi t) s x)]) d h1 (by omega) um.1 hy nc1 r1 (fun i hi => by rw [d1]; exact hdw i hi) hd (by simp; omega) tc1 (kp.tr k1) (fr.tr f1)
      rw [show u ++ [(pe s x, wU (NT.fi t) s x)] ++ (PT (NT.fi t) (NT.se t) s (upj (NT.fi t) (NT.se t) s x) y).1 = u ++ (pe s x, wU (NT.fi t) s x) :: (PT (NT.fi t) (NT.se t) s (upj (NT.fi t) (NT.se t) s x) y).1 by simp] at this
      exact this K
    · rw [if_neg hdp] at pt
      have um := tw.upm hE hE14 hy (ps.2 hdp)
      rw [pt] at hm K
      simp only [List.length_cons] at hm
      refine r_iload_3 dX8_laysRing_42 ?_
      refine r_iload_4 dX8_laysRing_43 ?_
      refine r_icmpN_eq 106 dX8_laysRing_45 (by decide) (by omega) (by omega) (fun c_45 => by exact absurd c_45 hxy) (fun c_45 => ?_)
      refine r_aload_0 dX8_laysRing_48 ?_
      refine r_iload_3 dX8_laysRing_49 ?_
      refine r_cV1 mX8_deepOf dX8_laysRing_50 ml_X8_295 mo_X8_deepOf rfl (q_deepOf ok nc tw tc hx) (by decide) ?_
      refine r_aload_0 dX8_laysRing_53 ?_
      refine r_iload_4 dX8_laysRing_54 ?_
      refine r_cV1 mX8_deepOf dX8_laysRing_56 ml_X8_295 mo_X8_deepOf rfl (q_deepOf ok nc tw tc hy) (by decide) ?_
      refine r_icmpN_lt 83 dX8_laysRing_59 (by decide) (by omega) (by omega) (fun c_59 => ?_) (fun c_59 => by omega)
      refine r_aload_0 dX8_laysRing_83 ?_
      refine r_getR (a := 92) dX8_laysRing_84 fl_X8_68 rfl rfl ?_
      refine r_iload_5 dX8_laysRing_87 ?_
      refine r_iload_4 dX8_laysRing_89 ?_
      refine r_iastN dX8_laysRing_91 rfl (by omega) ?_
      have f1 : FM rgM noF h (pI h 92 d.length (nI y)) := FM.rf.pI (by decide) (Or.inr (Or.inr (Or.inr rfl)))
      have nc1 := nc.fm (f1.wk rgM_s noF_s)
      have tc1 : TreeM (pI h 92 d.length (nI y)) s := tc.rg f1 id id
      refine r_iincN_5 dX8_laysRing_92 ?_
      refine r_aload_0 dX8_laysRing_95 ?_
      refine r_iload_4 dX8_laysRing_96 ?_
      refine r_cV1 mX8_above dX8_laysRing_98 ml_X8_285 mo_X8_above rfl (q_above ok nc1 tw tc1 hy (ps.2 hdp)) (by decide) ?_
      refine r_istore_4 dX8_laysRing_101 ?_
      refine r_goto 42 dX8_laysRing_103 (by decide) ?_
      have k1 : RKM h (pI h 92 d.length (nI y)) c := ⟨fun k _ => by simp (decide := true) only [pI_1, pI_2, pL_1, pL_2, pA_1, pA_2, pB_1, pB_2, Nat.add_left_cancel_iff, Nat.add_right_cancel_iff, Nat.add_eq_left, Nat.left_eq_add, true_and, false_and, and_false, and_true, and_self, if_true, if_false, ite_true, ite_false], fun j _ => by simp (decide := true) only [pI_1, pI_2, pL_1, pL_2, pA_1, pA_2, pB_1, pB_2, Nat.add_left_cancel_iff, Nat.add_right_cancel_iff, Nat.add_eq_left, Nat.left_eq_add, true_and, false_and, and_false, and_true, and_self, if_true, if_false, ite_true, ite_false]⟩
      have := ih x (upj (NT.fi t) (NT.se t) s y) u (d ++ [y]) (pI h 92 d.length (nI y)) (by omega) hx um.1 nc1 (ra.ext (by funext j; simp (decide := true) only [pI_1, pI_2, pL_1, pL_2, pA_1, pA_2, pB_1, pB_2, Nat.add_left_cancel_iff, Nat.add_right_cancel_iff, Nat.add_eq_left, Nat.left_eq_add, true_and, false_and, and_false, and_true, and_self, if_true, if_false, ite_true, ite_false]) (by funext j; simp (decide := true) only [pI_1, pI_2, pL_1, pL_2, pA_1, pA_2, pB_1, pB_2, Nat.add_left_cancel_iff, Nat.add_right_cancel_iff, Nat.add_eq_left, Nat.left_eq_add, true_and, false_and, and_false, and_true, and_self, if_true, if_false, ite_true, ite_false]) (by funext j; simp (decide := true) only [pI_1, pI_2, pL_1, pL_2, pA_1, pA_2, pB_1, pB_2, Nat.add_left_cancel_iff, Nat.add_right_cancel_iff, Nat.add_eq_left, Nat.left_eq_add, true_and, false_and, and_false, and_true, and_self, if_true, if_false, ite_true, ite_false])) (fun i hi => ?_) (fun v hv => ?_) (by simp; omega) tc1 (kp.tr k1) (fr.tr f1)
      · rw [show d ++ [y] ++ (PT (NT.fi t) (NT.se t) s x (upj (NT.fi t) (NT.se t) s y)).2 = d ++ y :: (PT (NT.fi t) (NT.se t) s x (upj (NT.fi t) (NT.se t) s y)).2 by simp, show (d ++ [y]).length = d.length + 1 by simp] at this
        exact this K
      · simp (decide := true) only [pI_1, pI_2, pL_1, pL_2, pA_1, pA_2, pB_1, pB_2, Nat.add_left_cancel_iff, Nat.add_right_cancel_iff, Nat.add_eq_left, Nat.left_eq_add, true_and, false_and, and_false, and_true, and_self, if_true, if_false, ite_true, ite_false]
        simp only [List.length_append, List.length_cons, List.length_nil] at hi
        by_cases q : i = d.length
        · subst q; simp [List.getD_eq_getElem?_getD]
        · rw [if_neg q, hdw i (by omega)]
          simp only [List.getD_eq_getElem?_getD, List.getElem?_append_left (show i < d.length by omega)]
      · rcases List.mem_append.mp hv with q | q
        · exact hd v q
        · simp at q; subst q; exact ⟨hy, ps.2 hdp⟩

def rgF : Nat → Prop := fun k => k = 34
theorem rgF_s : ∀ x, rgF x → slF x := fun x q => by rw [show x = 34 from q]; exact Or.inr (Or.inr (Or.inr (Or.inl rfl)))
theorem RingsM.snoc {h h1 : PH} {R : List RG} {L : RG} (rc : RingsM h R) (h9 : ∀ L ∈ R, L.length ≤ 9) (kp : RKM h h1 R.length) (ra : RAtM h1 R.length L) {x : Int32} (hx : x = nI (R.length + 1)) : RingsM (pI h1 74 34 x) (R ++ [L]) := by
  refine ⟨?_, fun k hk => ?_⟩
  · rw [pI_eq, hx]; simp
  · have hk : k < R.length + 1 := by simpa using hk
    have base : RAtM h1 k ((R ++ [L]).getD k []) := by
      by_cases q : k = R.length
      · subst q
        rw [List.getD_eq_getElem?_getD]; simpa using ra
      · rw [List.getD_eq_getElem?_getD, List.getElem?_append_left (by omega), ← List.getD_eq_getElem?_getD]
        refine (rc.2 k (by omega)).keep kp q (Nat.le_trans (h9 _ ?_) (by decide))
        rw [List.getD_eq_getElem?_getD, List.getElem?_eq_getElem (show k < R.length by omega)]
        exact List.getElem_mem _
    exact base.ext (by funext j; simp (decide := true) only [pI_1, pI_2, pL_1, pL_2, pA_1, pA_2, pB_1, pB_2, Nat.add_left_cancel_iff, Nat.add_right_cancel_iff, Nat.add_eq_left, Nat.left_eq_add, true_and, false_and, and_false, and_true, and_self, if_true, if_false, ite_true, ite_false]) (by funext j; simp (decide := true) only [pI_1, pI_2, pL_1, pL_2, pA_1, pA_2, pB_1, pB_2, Nat.add_left_cancel_iff, Nat.add_right_cancel_iff, Nat.add_eq_left, Nat.left_eq_add, true_and, false_and, and_false, and_true, and_self, if_true, if_false, ite_true, ite_false]) (by funext j; simp (decide := true) only [pI_1, pI_2, pL_1, pL_2, pA_1, pA_2, pB_1, pB_2, Nat.add_left_cancel_iff, Nat.add_right_cancel_iff, Nat.add_eq_left, Nat.left_eq_add, true_and, false_and, and_false, and_true, and_self, if_true, if_false, ite_true, ite_false])
set_option maxRecDepth 100000 in
set_option maxHeartbeats 4000000 in
theorem q_laysRing {h : PH} {t : NT} (ok : okT t) (nc : NetM h t) {e : Nat} (he : e < NT.E t) {op : Nat → Bool} {s : TS} (tw : TW (NT.E t) (NT.fi t) (NT.se t) op s) (tc : TreeM h s) (h1 : s.2.2.2 (NT.fi t e) = true) (h2 : s.2.2.2 (NT.se t e) = true) {R : List RG} (rc : RingsM h R) (hR : R.length < 14) (h9 : ∀ L ∈ R, L.length ≤ 9) : Con mX8_laysRing 4 [.ref 74, .int (nI e)] h (fun a h' => a = none ∧ (RingsM h' (R ++ [ringOf (NT.fi t) (NT.se t) s e]) ∧ FM rgM rgF h h')) := by
  refine Con.mk (by decide) ?_
  show RT _ _ 0 [some (.ref 74), some (.int (nI e)), none, none, none, none, none] [] _ _
  have he14 : e < 14 := by have := ok.2.2.1; omega
  have hj9 := ok.2.1
  obtain ⟨ee1, ee2, ee3⟩ := ok.ends e he
  obtain ⟨n1, n2, n3, n4, n5, n6⟩ := nc.2.2.2.2.2.2 e he
  have hl := PT_len tw ok.ends ok.2.2.1 h2 h1
  refine r_aload_0 dX8_laysRing_0 ?_
  refine r_getI dX8_laysRing_1 fl_X8_288 rfl ?_
  rw [rc.1]
  refine r_istore_2 dX8_laysRing_4 ?_
  refine r_aload_0 dX8_laysRing_5 ?_
  refine r_getR (a := 90) dX8_laysRing_6 fl_X8_62 rfl rfl ?_
  refine r_iload_2 dX8_laysRing_9 ?_
  refine r_iconst (v := nI 0) dX8_laysRing_10 (by decide) ?_
  refine r_iastN dX8_laysRing_11 rfl (by omega) ?_
  have fA : FM rgM noF h (pI h 90 R.length (nI 0)) := FM.rf.pI (by decide) (Or.inr (Or.inr (Or.inl rfl)))
  have ncA := nc.fm (fA.wk rgM_s noF_s)
  have kA : RKM h (pI h 90 R.length (nI 0)) R.length := ⟨fun k hk => by simp (decide := true) only [pI_1, pI_2, pL_1, pL_2, pA_1, pA_2, pB_1, pB_2, Nat.add_left_cancel_iff, Nat.add_right_cancel_iff, Nat.add_eq_left, Nat.left_eq_add, true_and, false_and, and_false, and_true, and_self, if_true, if_false, ite_true, ite_false]; rw [if_neg hk], fun j _ => by simp (decide := true) only [pI_1, pI_2, pL_1, pL_2, pA_1, pA_2, pB_1, pB_2, Nat.add_left_cancel_iff, Nat.add_right_cancel_iff, Nat.add_eq_left, Nat.left_eq_add, true_and, false_and, and_false, and_true, and_self, if_true, if_false, ite_true, ite_false]⟩
  have raA : RAtM (pI h 90 R.length (nI 0)) R.length [] := ⟨pI_eq, fun i hi => by simp at hi⟩
  refine r_aload_0 dX8_laysRing_12 ?_
  refine r_iload_2 dX8_laysRing_13 ?_
  refine r_iload_1 dX8_laysRing_14 ?_
  refine r_aload_0 dX8_laysRing_15 ?_
  refine r_getR (a := 79) dX8_laysRing_16 fl_X8_28 rfl rfl ?_
  refine r_iload_1 dX8_laysRing_19 ?_
  refine r_ialdN dX8_laysRing_20 rfl (by omega) ?_
  simp (decide := true) only [pI_1, pI_2, pL_1, pL_2, pA_1, pA_2, pB_1, pB_2, Nat.add_left_cancel_iff, Nat.add_right_cancel_iff, Nat.add_eq_left, Nat.left_eq_add, true_and, false_and, and_false, and_true, and_self, if_true, if_false, ite_true, ite_false]
  rw [n1]
  refine r_cWQ3 mX8_laysRingEdge dX8_laysRing_21 ml_X8_291 mo_X8_laysRingEdge rfl (q_layE ok ncA he hR ee1 raA (by decide)) (by decide) (fun hB pB => ?_)
  obtain ⟨raB, kB, -, fB⟩ := pB
  rw [if_pos rfl] at raB
  have ncB := ncA.fm (fB.wk rgM_s noF_s)
  refine r_aload_0 dX8_laysRing_24 ?_
  refine r_getR (a := 80) dX8_laysRing_25 fl_X8_31 rfl rfl ?_
  refine r_iload_1 dX8_laysRing_28 ?_
  refine r_ialdN dX8_laysRing_29 rfl (by omega) ?_
  rw [(ncB.2.2.2.2.2.2 e he).2.1]
  refine r_istore_3 dX8_laysRing_30 ?_
  refine r_aload_0 dX8_laysRing_31 ?_
  refine r_getR (a := 79) dX8_laysRing_32 fl_X8_28 rfl rfl ?_
  refine r_iload_1 dX8_laysRing_35 ?_
  refine r_ialdN dX8_laysRing_36 rfl (by omega) ?_
  rw [(ncB.2.2.2.2.2.2 e he).1]
  refine r_istore_4 dX8_laysRing_37 ?_
  refine r_iconst (v := nI 0) dX8_laysRing_39 (by decide) ?_
  refine r_istore_5 dX8_laysRing_40 ?_
  refine RT.sub (lv' := [some (.ref 74), none, some (.int (nI R.length)), some (.int (nI (NT.se t e))), some (.int (nI (NT.fi t e))), some (.int (nI 0)), none]) (by simp [lsub]) ?_
  refine mr1 ok tw hR h _ (NT.se t e) (NT.fi t e) [(e, 1)] [] hB rfl h2 h1 ncB raB (fun i hi => by simp at hi) (fun v hv => by simp at hv) (by simp; omega) ((tc.rg fA id id).rg fB id id) (kA.tr kB) (fA.tr fB) (fun h' ra' k' f' => ?_)
  have hrn : h'.1 74 34 = nI R.length := (f'.1 34 id).trans rc.1
  refine r_aload_0 dX8_laysRing_151 ?_
  refine r_dupr dX8_laysRing_152 ?_
  refine r_getI dX8_laysRing_153 fl_X8_288 rfl ?_
  rw [hrn]
  refine r_iconst (v := 1) dX8_laysRing_156 (by decide) ?_
  refine r_iadd dX8_laysRing_157 ?_
  refine r_putI dX8_laysRing_158 fl_X8_288 rfl rfl rfl ?_
  refine r_vret dX8_laysRing_161 rfl ?_
  refine ⟨rfl, ?_, (f'.wk (fun _ q => q) (fun _ q => q.elim)).pF rfl⟩
  have := rc.snoc h9 k' ra' (x := nI R.length + 1) (nI_1 _)
  rw [show [(e, (1 : Int32))] ++ (PT (NT.fi t) (NT.se t) s (NT.se t e) (NT.fi t e)).1 ++ dnL (NT.se t) s ([] ++ (PT (NT.fi t) (NT.se t) s (NT.se t e) (NT.fi t e)).2) = ringOf (NT.fi t) (NT.se t) s e by simp [ringOf]] at this
  exact this

set_option maxRecDepth 100000 in
set_option maxHeartbeats 4000000 in
theorem mnet_loop {t : NT} (ok : okT t) (sh : Int32) {s : TS} (tw : TW (NT.E t) (NT.fi t) (NT.se t) (opS (snOf t) sh) s) (both : ∀ e, e < NT.E t → (opS (snOf t) sh) e = true → (s.2.2.2 (NT.fi t e) = true ↔ s.2.2.2 (NT.se t e) = true)) (h0 : PH) {Q : Option Value → PH → Prop} (K : ∀ h', RingsM h' (ringsS (NT.fi t) (NT.se t) (opS (snOf t) sh) s (NT.E t)) → FM rgM rgF h0 h' → RT mX8_laysNet 5 46 [some (.ref 74), none] [] h' Q) : ∀ (m e : Nat) (h : PH), e + m = NT.E t → NetM h t → h.1 74 28 = sh → TreeM h s → RingsM h (ringsS (NT.fi t) (NT.se t) (opS (snOf t) sh) s e) → FM rgM rgF h0 h → RT mX8_laysNet 5 11 [some (.ref 74), some (.int (nI e))] [] h Q := by
  have hE14 := ok.2.2.1
  have hj9 := ok.2.1
  intro m
  induction m with
  | zero =>
    intro e h hm nc hs tc rc fr
    have : e = NT.E t := by omega
    subst this
    refine r_iload_1 dX8_laysNet_11 ?_
    refine r_aload_0 dX8_laysNet_12 ?_
    refine r_getI dX8_laysNet_13 fl_X8_232 rfl ?_
    rw [nc.2.1]
    refine r_icmpN_ge 46 dX8_laysNet_16 (by decide) (by omega) (by omega) (fun c_16 => ?_) (fun c_16 => by omega)
    refine RT.sub (lv' := [some (.ref 74), none]) (by simp [lsub]) ?_
    exact K h rc fr
  | succ m ih =>
    intro e h hm nc hs tc rc fr
    have he : e < NT.E t := by omega
    obtain ⟨ee1, ee2, ee3⟩ := ok.ends e he
    have hc14 := ringsS_le (NT.fi t) (NT.se t) (opS (snOf t) sh) s e
    have hss := ringsS_succ (NT.fi t) (NT.se t) (opS (snOf t) sh) s e
    have hmt := tc.1 (NT.fi t e) (by omega)
    cases hA : ((opS (snOf t) sh) e && s.2.2.2 (NT.fi t e))
    · have hRE : isRE (NT.fi t) (NT.se t) (opS (snOf t) sh) s e = false := by unfold isRE; rw [hA]; rfl
      refine r_iload_1 dX8_laysNet_11 ?_
      refine r_aload_0 dX8_laysNet_12 ?_
      refine r_getI dX8_laysNet_13 fl_X8_232 rfl ?_
      rw [nc.2.1]
      refine r_icmpN_ge 46 dX8_laysNet_16 (by decide) (by omega) (by omega) (fun c_16 => by omega) (fun c_16 => ?_)
      refine r_aload_0 dX8_laysNet_19 ?_
      refine r_iload_1 dX8_laysNet_20 ?_
      refine r_cV1 mX8_isLive dX8_laysNet_21 ml_X8_275 mo_X8_isLive rfl (q_isLive ok nc he) (by decide) ?_
      rw [hs, hmt, hA]
      refine r_if_eq 40 dX8_laysNet_24 (by decide) (fun c_24 => ?_) (fun c_24 => by exact absurd rfl c_24)
      refine r_iincN_1 dX8_laysNet_40 ?_
      refine r_goto 11 dX8_laysNet_43 (by decide) ?_
      rw [if_neg (by rw [hRE]; decide), List.append_nil] at hss
      exact ih (e + 1) h (by omega) nc hs tc (by rw [hss]; exact rc) fr
    · cases hB : isTE (NT.fi t) (NT.se t) s e
      · have hRE : isRE (NT.fi t) (NT.se t) (opS (snOf t) sh) s e = true := by unfold isRE; rw [hA, hB]; rfl
        have hA2 := hA
        rw [Bool.and_eq_true] at hA2
        refine r_iload_1 dX8_laysNet_11 ?_
        refine r_aload_0 dX8_laysNet_12 ?_
        refine r_getI dX8_laysNet_13 fl_X8_232 rfl ?_
        rw [nc.2.1]
        refine r_icmpN_ge 46 dX8_laysNet_16 (by decide) (by omega) (by omega) (fun c_16 => by omega) (fun c_16 => ?_)
        refine r_aload_0 dX8_laysNet_19 ?_
        refine r_iload_1 dX8_laysNet_20 ?_
        refine r_cV1 mX8_isLive dX8_laysNet_21 ml_X8_275 mo_X8_isLive rfl (q_isLive ok nc he) (by decide) ?_
        rw [hs, hmt, hA]
        refine r_if_eq 40 dX8_laysNet_24 (by decide) (fun c_24 => by exact absurd c_24 (by decide)) (fun c_24 => ?_)
        refine r_aload_0 dX8_laysNet_27 ?_
        refine r_iload_1 dX8_laysNet_28 ?_
        refine r_cV1 mX8_isTree dX8_laysNet_29 ml_X8_354 mo_X8_isTree rfl (q_isTree ok nc he tc) (by decide) ?_
        rw [hs, hmt, hA, hB]
        refine r_if_ne 40 dX8_laysNet_32 (by decide) (fun c_32 => by exact absurd rfl c_32) (fun c_32 => ?_)
        refine r_aload_0 dX8_laysNet_35 ?_
        refine r_iload_1 dX8_laysNet_36 ?_
        refine r_cWQ1 mX8_laysRing dX8_laysNet_37 ml_X8_357 mo_X8_laysRing rfl (q_laysRing ok nc he tw tc hA2.2 ((both e he hA2.1).mp hA2.2) rc (by omega) (ringsS_9 ok tw both (Nat.le_of_lt he))) (by decide) (fun h1 p1 => ?_)
        obtain ⟨rc1, f1⟩ := p1
        refine r_iincN_1 dX8_laysNet_40 ?_
        refine r_goto 11 dX8_laysNet_43 (by decide) ?_
        rw [if_pos hRE] at hss
        rw [← hss] at rc1
        exact ih (e + 1) h1 (by omega) (nc.fm (f1.wk rgM_s rgF_s)) ((f1.1 28 (fun q => absurd (show 28 = 34 from q) (by decide))).trans hs) (tc.rg f1 (fun q => absurd (show 29 = 34 from q) (by decide)) (fun q => absurd (show 32 = 34 from q) (by decide))) rc1 (fr.tr f1)
      · have hRE : isRE (NT.fi t) (NT.se t) (opS (snOf t) sh) s e = false := by unfold isRE; rw [hA, hB]; rfl
        refine r_iload_1 dX8_laysNet_11 ?_
        refine r_aload_0 dX8_laysNet_12 ?_
        refine r_getI dX8_laysNet_13 fl_X8_232 rfl ?_
        rw [nc.2.1]
        refine r_icmpN_ge 46 dX8_laysNet_16 (by decide) (by omega) (by omega) (fun c_16 => by omega) (fun c_16 => ?_)
        refine r_aload_0 dX8_laysNet_19 ?_
        refine r_iload_1 dX8_laysNet_20 ?_
        refine r_cV1 mX8_isLive dX8_laysNet_21 ml_X8_275 mo_X8_isLive rfl (q_isLive ok nc he) (by decide) ?_
        rw [hs, hmt, hA]
        refine r_if_eq 40 dX8_laysNet_24 (by decide) (fun c_24 => by exact absurd c_24 (by decide)) (fun c_24 => ?_)
        refine r_aload_0 dX8_laysNet_27 ?_
        refine r_iload_1 dX8_laysNet_28 ?_
        refine r_cV1 mX8_isTree dX8_laysNet_29 ml_X8_354 mo_X8_isTree rfl (q_isTree ok nc he tc) (by decide) ?_
        rw [hs, hmt, hA, hB]
        refine r_if_ne 40 dX8_laysNet_32 (by decide) (fun c_32 => ?_) (fun c_32 => by exact absurd c_32 (by decide))
        refine r_iincN_1 dX8_laysNet_40 ?_
        refine r_goto 11 dX8_laysNet_43 (by decide) ?_
        rw [if_neg (by rw [hRE]; decide), List.append_nil] at hss
        exact ih (e + 1) h (by omega) nc hs tc (by rw [hss]; exact rc) fr
