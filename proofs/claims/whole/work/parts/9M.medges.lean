/-! ===== the reference reads: edges, lines ===== -/
theorem RdG.cnt {h : PH} {t : NT} {nm : NMS} {E : Nat} (r : RdG h t nm E) (E' : Nat) : RdG (pI h 74 26 (nI E')) t nm E' := by
  obtain ⟨r1, r2, r3, r4⟩ := r
  have g : ∀ y, y ≠ 74 → (pI h 74 26 (nI E')).1 y = h.1 y := fun y hy => funext fun j => pI_ne y j (Or.inl hy)
  refine ⟨(pI_ne 74 25 (Or.inr (by decide))).trans r1, pI_eq, fun j hj => ?_, fun e he => ?_⟩
  · rw [g 76 (by decide), g 77 (by decide), g 78 (by decide)]; exact r3 j hj
  · rw [g 79 (by decide), g 80 (by decide), g 81 (by decide), g 82 (by decide), g 83 (by decide), g 84 (by decide)]; exact r4 e he
theorem spLift_E {n : Nat} {B : Nat → Nat} {nm : NMS} : ∀ (m : Nat) (k : TK) (hi : Int32) (t : NT), NT.E (spLift B n nm m k hi t).2.2.1 = NT.E t := by
  intro m
  induction m with
  | zero => intro k hi t; rfl
  | succ m ih =>
    intro k hi t
    unfold spLift
    split
    · split
      · exact ih _ _ _
      · rfl
    · rfl
theorem jFl_n {B : Nat → Nat} {k : TK} : jFl B k ≠ 0 := by unfold jFl; split <;> decide
theorem jA_3 {B : Nat → Nat} {k : TK} {t : NT} {nm : NMS} {j : Nat} (h : jA B k t nm = some j) : jFl B k = 3 ∧ j < NT.J t := by
  unfold jA at h
  split at h
  · next q => exact ⟨if_pos q, jH_lt h⟩
  · cases h
set_option maxRecDepth 100000 in
set_option maxHeartbeats 4000000 in
theorem q_edge0 {h : PH} {n : Nat} {B : Nat → Nat} (ok : OKB n B) {k : TK} {t : NT} {nm : NMS} (c : RMd h n B k t nm) (g : TGd n B k) (ti : TI t) (no : nmOK t nm) : Con mX8_readEdge 9 [.ref 74, .int 0] h (fun a h' => a = some (.int (b2i ((spRes B n 0 k t nm).1 = 0))) ∧ MOut h h' n B (spRes B n 0 k t nm)) := by
  have hJ := ti.1
  have hE := ti.2.1
  have k1 : h.1 74 26 = nI (NT.E t) := c.2.2.2.1
  have g1 := g.nx.1
  have g2 := g1.nx.1
  have g3 := g2.nx.1
  refine Con.mk (by decide) ?_
  show RT _ _ 0 [some (.ref 74), some (.int 0), none] [] _ _
  by_cases h14 : NT.E t = 14
  · have e0 : spEnds B n k t nm = (4, k, 0, 0) := by unfold spEnds; rw [if_pos h14]
    have e : spRes B n 0 k t nm = (4, k, t, nm) := by unfold spRes; rw [e0]; exact if_neg (show ¬ ((4 : Int32) = 0) by decide)
    rw [e]
    refine r_aload_0 dX8_readEdge_0 ?_
    refine r_getI dX8_readEdge_1 fl_X8_205 rfl ?_
    rw [k1]
    refine r_bipush (v := nI 14) dX8_readEdge_4 (by decide) ?_
    refine r_icmpN_ne 15 dX8_readEdge_6 (by decide) (by omega) (by omega) (fun c_6 => by omega) (fun c_6 => ?_)
    refine r_aload_0 dX8_readEdge_9 ?_
    refine r_iconst (v := 4) dX8_readEdge_10 (by decide) ?_
    refine r_cV1 mX8_errs dX8_readEdge_11 ml_X8_181 mo_X8_errs rfl (q_errs c.2.1 4) (by decide) ?_
    refine r_zret dX8_readEdge_14 rfl rfl ?_
    exact ⟨(by first | rfl | exact congrArg (fun x => some (Value.int x)) (b2i_f (show ¬ ((4 : Int32) = 0) by decide)).symm), fun q => absurd q (show ¬ ((4 : Int32) = 0) by decide), fun _ => erH_b, erH_f FR.rf⟩
  · cases hj1 : jA B (nx B n k) t nm with
    | none =>
      have e0 : spEnds B n k t nm = (jFl B (nx B n k), (nx B n k), 0, 0) := by unfold spEnds; rw [if_neg h14, hj1]
      have e : spRes B n 0 k t nm = (jFl B (nx B n k), (nx B n k), t, nm) := by unfold spRes; rw [e0]; exact if_neg jFl_n
      rw [e]
      refine r_aload_0 dX8_readEdge_0 ?_
      refine r_getI dX8_readEdge_1 fl_X8_205 rfl ?_
      rw [k1]
      refine r_bipush (v := nI 14) dX8_readEdge_4 (by decide) ?_
      refine r_icmpN_ne 15 dX8_readEdge_6 (by decide) (by omega) (by omega) (fun c_6 => ?_) (fun c_6 => by omega)
      refine r_aload_0 dX8_readEdge_15 ?_
      refine r_cWQ0 mX8_goesOn dX8_readEdge_16 ml_X8_188 mo_X8_goesOn rfl (q_goesOn ok c.1 g.1.2.1 c.2.1.2.2.1) (by decide) (fun h2 p2 => ?_)
      obtain ⟨c2, f2⟩ := c.go (k' := (nx B n k)) p2
      have k2 : h2.1 74 26 = nI (NT.E t) := c2.2.2.2.1
      refine r_bipush (v := nI 14) dX8_readEdge_19 (by decide) ?_
      refine r_aload_0 dX8_readEdge_21 ?_
      refine r_getI dX8_readEdge_22 fl_X8_205 rfl ?_
      rw [k2]
      refine r_iadd dX8_readEdge_25 ?_
      rw [nI_ad9]
      refine r_istore_2 dX8_readEdge_26 ?_
      refine r_aload_0 dX8_readEdge_27 ?_
      refine r_getR (a := 79) dX8_readEdge_28 fl_X8_28 rfl rfl ?_
      refine r_iload_2 dX8_readEdge_31 ?_
      refine r_aload_0 dX8_readEdge_32 ?_
      refine r_iconst (v := (-1)) dX8_readEdge_33 (by decide) ?_
      refine r_cV1 mX8_takesJoint dX8_readEdge_34 ml_X8_208 mo_X8_takesJoint rfl (q_tjn ok c2 g1 hJ no (x := -1) (Or.inl hj1)) (by decide) ?_
      refine r_iastN dX8_readEdge_37 rfl (by omega) ?_
      refine r_aload_0 dX8_readEdge_38 ?_
      refine r_getR (a := 79) dX8_readEdge_39 fl_X8_28 rfl rfl ?_
      refine r_iload_2 dX8_readEdge_42 ?_
      refine r_ialdN dX8_readEdge_43 rfl (by omega) ?_
      rw [pI_eq]
      refine r_iconst (v := (-1)) dX8_readEdge_44 (by decide) ?_
      refine r_icmp_ne 50 dX8_readEdge_45 (by decide) (fun c_45 => by exact absurd rfl c_45) (fun c_45 => ?_)
      refine r_iconst (v := 0) dX8_readEdge_48 (by decide) ?_
      refine r_zret dX8_readEdge_49 rfl rfl ?_
      exact ⟨(by first | rfl | exact congrArg (fun x => some (Value.int x)) (b2i_f jFl_n).symm), fun q => absurd q jFl_n, fun _ => ⟨(pI_ne 74 23 (Or.inl (by decide))).trans erH_b.1, (pI_ne 74 24 (Or.inl (by decide))).trans erH_b.2⟩, fr_pA (erH_f f2) (by decide) (by decide) (by show 14 ≤ 14 + NT.E t; omega)⟩
    | some a =>
      have ha := (jA_3 hj1).2
      cases hj2 : jA B (nx B n (nx B n k)) t nm with
      | none =>
        have e0 : spEnds B n k t nm = (jFl B (nx B n (nx B n k)), (nx B n (nx B n k)), 0, 0) := by unfold spEnds; rw [if_neg h14, hj1]; simp only; rw [hj2]
        have e : spRes B n 0 k t nm = (jFl B (nx B n (nx B n k)), (nx B n (nx B n k)), t, nm) := by unfold spRes; rw [e0]; exact if_neg jFl_n
        rw [e]
        refine r_aload_0 dX8_readEdge_0 ?_
        refine r_getI dX8_readEdge_1 fl_X8_205 rfl ?_
        rw [k1]
        refine r_bipush (v := nI 14) dX8_readEdge_4 (by decide) ?_
        refine r_icmpN_ne 15 dX8_readEdge_6 (by decide) (by omega) (by omega) (fun c_6 => ?_) (fun c_6 => by omega)
        refine r_aload_0 dX8_readEdge_15 ?_
        refine r_cWQ0 mX8_goesOn dX8_readEdge_16 ml_X8_188 mo_X8_goesOn rfl (q_goesOn ok c.1 g.1.2.1 c.2.1.2.2.1) (by decide) (fun h2 p2 => ?_)
        obtain ⟨c2, f2⟩ := c.go (k' := (nx B n k)) p2
        have k2 : h2.1 74 26 = nI (NT.E t) := c2.2.2.2.1
        refine r_bipush (v := nI 14) dX8_readEdge_19 (by decide) ?_
        refine r_aload_0 dX8_readEdge_21 ?_
        refine r_getI dX8_readEdge_22 fl_X8_205 rfl ?_
        rw [k2]
        refine r_iadd dX8_readEdge_25 ?_
        rw [nI_ad9]
        refine r_istore_2 dX8_readEdge_26 ?_
        refine r_aload_0 dX8_readEdge_27 ?_
        refine r_getR (a := 79) dX8_readEdge_28 fl_X8_28 rfl rfl ?_
        refine r_iload_2 dX8_readEdge_31 ?_
        refine r_aload_0 dX8_readEdge_32 ?_
        refine r_iconst (v := (-1)) dX8_readEdge_33 (by decide) ?_
        refine r_cVQ1 mX8_takesJoint dX8_readEdge_34 ml_X8_208 mo_X8_takesJoint rfl (q_tj ok c2 g1 hJ no hj1 (x := -1) (nI_ne_m1 (by omega))) (by decide) (fun h3 p3 => ?_)
        obtain ⟨c3, fm3⟩ := p3
        have f3 : FR h h3 := f2.tr (fr_fm fm3 (fun k q => tkF_r q))
        have c3' := c3.wr (y := 79) (i := (14 + NT.E t)) (x := nI a) ti (by decide) (fun q => by omega) (fun q => by omega) (fun _ _ => Nat.le_refl _) (fun q => by omega)
        have f3' : FR h (pI h3 79 (14 + NT.E t) (nI a)) := fr_pA f3 (by decide) (by decide) (by show 14 ≤ 14 + NT.E t; omega)
        refine r_iastN dX8_readEdge_37 rfl (by omega) ?_
        refine r_aload_0 dX8_readEdge_38 ?_
        refine r_getR (a := 79) dX8_readEdge_39 fl_X8_28 rfl rfl ?_
        refine r_iload_2 dX8_readEdge_42 ?_
        refine r_ialdN dX8_readEdge_43 rfl (by omega) ?_
        rw [pI_eq]
        refine r_iconst (v := (-1)) dX8_readEdge_44 (by decide) ?_
        refine r_icmp_ne 50 dX8_readEdge_45 (by decide) (fun c_45 => ?_) (fun c_45 => by exact absurd c_45 (nI_ne_m1 (by omega)))
        refine r_aload_0 dX8_readEdge_50 ?_
        refine r_getR (a := 80) dX8_readEdge_51 fl_X8_31 rfl rfl ?_
        refine r_iload_2 dX8_readEdge_54 ?_
        refine r_aload_0 dX8_readEdge_55 ?_
        refine r_aload_0 dX8_readEdge_56 ?_
        refine r_getR (a := 79) dX8_readEdge_57 fl_X8_28 rfl rfl ?_
        refine r_iload_2 dX8_readEdge_60 ?_
        refine r_ialdN dX8_readEdge_61 rfl (by omega) ?_
        rw [pI_eq]
        refine r_cV1 mX8_takesJoint dX8_readEdge_62 ml_X8_208 mo_X8_takesJoint rfl (q_tjn ok c3' g2 hJ no (x := nI a) (Or.inl hj2)) (by decide) ?_
        refine r_iastN dX8_readEdge_65 rfl (by omega) ?_
        refine r_aload_0 dX8_readEdge_66 ?_
        refine r_getR (a := 80) dX8_readEdge_67 fl_X8_31 rfl rfl ?_
        refine r_iload_2 dX8_readEdge_70 ?_
        refine r_ialdN dX8_readEdge_71 rfl (by omega) ?_
        rw [pI_eq]
        refine r_iconst (v := (-1)) dX8_readEdge_72 (by decide) ?_
        refine r_icmp_ne 78 dX8_readEdge_73 (by decide) (fun c_73 => by exact absurd rfl c_73) (fun c_73 => ?_)
        refine r_iconst (v := 0) dX8_readEdge_76 (by decide) ?_
        refine r_zret dX8_readEdge_77 rfl rfl ?_
        exact ⟨(by first | rfl | exact congrArg (fun x => some (Value.int x)) (b2i_f jFl_n).symm), fun q => absurd q jFl_n, fun _ => ⟨(pI_ne 74 23 (Or.inl (by decide))).trans erH_b.1, (pI_ne 74 24 (Or.inl (by decide))).trans erH_b.2⟩, fr_pA (erH_f f3') (by decide) (by decide) (by show 14 ≤ 14 + NT.E t; omega)⟩
      | some b =>
        have hb := (jA_3 hj2).2
        by_cases hab : b = a
        · have e0 : spEnds B n k t nm = (jFl B (nx B n (nx B n k)), (nx B n (nx B n k)), 0, 0) := by unfold spEnds; rw [if_neg h14, hj1]; simp only; rw [hj2]; simp only; rw [if_pos hab, (jA_3 hj2).1]
          have e : spRes B n 0 k t nm = (jFl B (nx B n (nx B n k)), (nx B n (nx B n k)), t, nm) := by unfold spRes; rw [e0]; exact if_neg jFl_n
          rw [e]
          refine r_aload_0 dX8_readEdge_0 ?_
          refine r_getI dX8_readEdge_1 fl_X8_205 rfl ?_
          rw [k1]
          refine r_bipush (v := nI 14) dX8_readEdge_4 (by decide) ?_
          refine r_icmpN_ne 15 dX8_readEdge_6 (by decide) (by omega) (by omega) (fun c_6 => ?_) (fun c_6 => by omega)
          refine r_aload_0 dX8_readEdge_15 ?_
          refine r_cWQ0 mX8_goesOn dX8_readEdge_16 ml_X8_188 mo_X8_goesOn rfl (q_goesOn ok c.1 g.1.2.1 c.2.1.2.2.1) (by decide) (fun h2 p2 => ?_)
          obtain ⟨c2, f2⟩ := c.go (k' := (nx B n k)) p2
          have k2 : h2.1 74 26 = nI (NT.E t) := c2.2.2.2.1
          refine r_bipush (v := nI 14) dX8_readEdge_19 (by decide) ?_
          refine r_aload_0 dX8_readEdge_21 ?_
          refine r_getI dX8_readEdge_22 fl_X8_205 rfl ?_
          rw [k2]
          refine r_iadd dX8_readEdge_25 ?_
          rw [nI_ad9]
          refine r_istore_2 dX8_readEdge_26 ?_
          refine r_aload_0 dX8_readEdge_27 ?_
          refine r_getR (a := 79) dX8_readEdge_28 fl_X8_28 rfl rfl ?_
          refine r_iload_2 dX8_readEdge_31 ?_
          refine r_aload_0 dX8_readEdge_32 ?_
          refine r_iconst (v := (-1)) dX8_readEdge_33 (by decide) ?_
          refine r_cVQ1 mX8_takesJoint dX8_readEdge_34 ml_X8_208 mo_X8_takesJoint rfl (q_tj ok c2 g1 hJ no hj1 (x := -1) (nI_ne_m1 (by omega))) (by decide) (fun h3 p3 => ?_)
          obtain ⟨c3, fm3⟩ := p3
          have f3 : FR h h3 := f2.tr (fr_fm fm3 (fun k q => tkF_r q))
          have c3' := c3.wr (y := 79) (i := (14 + NT.E t)) (x := nI a) ti (by decide) (fun q => by omega) (fun q => by omega) (fun _ _ => Nat.le_refl _) (fun q => by omega)
          have f3' : FR h (pI h3 79 (14 + NT.E t) (nI a)) := fr_pA f3 (by decide) (by decide) (by show 14 ≤ 14 + NT.E t; omega)
          refine r_iastN dX8_readEdge_37 rfl (by omega) ?_
          refine r_aload_0 dX8_readEdge_38 ?_
          refine r_getR (a := 79) dX8_readEdge_39 fl_X8_28 rfl rfl ?_
          refine r_iload_2 dX8_readEdge_42 ?_
          refine r_ialdN dX8_readEdge_43 rfl (by omega) ?_
          rw [pI_eq]
          refine r_iconst (v := (-1)) dX8_readEdge_44 (by decide) ?_
          refine r_icmp_ne 50 dX8_readEdge_45 (by decide) (fun c_45 => ?_) (fun c_45 => by exact absurd c_45 (nI_ne_m1 (by omega)))
          refine r_aload_0 dX8_readEdge_50 ?_
          refine r_getR (a := 80) dX8_readEdge_51 fl_X8_31 rfl rfl ?_
          refine r_iload_2 dX8_readEdge_54 ?_
          refine r_aload_0 dX8_readEdge_55 ?_
          refine r_aload_0 dX8_readEdge_56 ?_
          refine r_getR (a := 79) dX8_readEdge_57 fl_X8_28 rfl rfl ?_
          refine r_iload_2 dX8_readEdge_60 ?_
          refine r_ialdN dX8_readEdge_61 rfl (by omega) ?_
          rw [pI_eq]
          refine r_cV1 mX8_takesJoint dX8_readEdge_62 ml_X8_208 mo_X8_takesJoint rfl (q_tjn ok c3' g2 hJ no (x := nI a) (Or.inr ⟨b, hj2, by rw [hab]⟩)) (by decide) ?_
          refine r_iastN dX8_readEdge_65 rfl (by omega) ?_
          refine r_aload_0 dX8_readEdge_66 ?_
          refine r_getR (a := 80) dX8_readEdge_67 fl_X8_31 rfl rfl ?_
          refine r_iload_2 dX8_readEdge_70 ?_
          refine r_ialdN dX8_readEdge_71 rfl (by omega) ?_
          rw [pI_eq]
          refine r_iconst (v := (-1)) dX8_readEdge_72 (by decide) ?_
          refine r_icmp_ne 78 dX8_readEdge_73 (by decide) (fun c_73 => by exact absurd rfl c_73) (fun c_73 => ?_)
          refine r_iconst (v := 0) dX8_readEdge_76 (by decide) ?_
          refine r_zret dX8_readEdge_77 rfl rfl ?_
          exact ⟨(by first | rfl | exact congrArg (fun x => some (Value.int x)) (b2i_f jFl_n).symm), fun q => absurd q jFl_n, fun _ => ⟨(pI_ne 74 23 (Or.inl (by decide))).trans erH_b.1, (pI_ne 74 24 (Or.inl (by decide))).trans erH_b.2⟩, fr_pA (erH_f f3') (by decide) (by decide) (by show 14 ≤ 14 + NT.E t; omega)⟩
        · have e0 : spEnds B n k t nm = (0, (nx B n (nx B n (nx B n k))), a, b) := by unfold spEnds; rw [if_neg h14, hj1]; simp only; rw [hj2]; simp only; rw [if_neg hab]
          by_cases hv : wF B (nx B n (nx B n (nx B n k))) 1 20 = 0
          · have e : spRes B n 0 k t nm = (0, nx B n (nx B n (nx B n (nx B n k))), adE t 0 a b (wv B (nx B n (nx B n (nx B n k)))), nm) := by unfold spRes; rw [e0]; show (if (0 : Int32) = 0 then (if wF B (nx B n (nx B n (nx B n k))) 1 20 = 0 then _ else _) else _) = _; rw [if_pos rfl, if_pos hv]
            rw [e]
            refine r_aload_0 dX8_readEdge_0 ?_
            refine r_getI dX8_readEdge_1 fl_X8_205 rfl ?_
            rw [k1]
            refine r_bipush (v := nI 14) dX8_readEdge_4 (by decide) ?_
            refine r_icmpN_ne 15 dX8_readEdge_6 (by decide) (by omega) (by omega) (fun c_6 => ?_) (fun c_6 => by omega)
            refine r_aload_0 dX8_readEdge_15 ?_
            refine r_cWQ0 mX8_goesOn dX8_readEdge_16 ml_X8_188 mo_X8_goesOn rfl (q_goesOn ok c.1 g.1.2.1 c.2.1.2.2.1) (by decide) (fun h2 p2 => ?_)
            obtain ⟨c2, f2⟩ := c.go (k' := (nx B n k)) p2
            have k2 : h2.1 74 26 = nI (NT.E t) := c2.2.2.2.1
            refine r_bipush (v := nI 14) dX8_readEdge_19 (by decide) ?_
            refine r_aload_0 dX8_readEdge_21 ?_
            refine r_getI dX8_readEdge_22 fl_X8_205 rfl ?_
            rw [k2]
            refine r_iadd dX8_readEdge_25 ?_
            rw [nI_ad9]
            refine r_istore_2 dX8_readEdge_26 ?_
            refine r_aload_0 dX8_readEdge_27 ?_
            refine r_getR (a := 79) dX8_readEdge_28 fl_X8_28 rfl rfl ?_
            refine r_iload_2 dX8_readEdge_31 ?_
            refine r_aload_0 dX8_readEdge_32 ?_
            refine r_iconst (v := (-1)) dX8_readEdge_33 (by decide) ?_
            refine r_cVQ1 mX8_takesJoint dX8_readEdge_34 ml_X8_208 mo_X8_takesJoint rfl (q_tj ok c2 g1 hJ no hj1 (x := -1) (nI_ne_m1 (by omega))) (by decide) (fun h3 p3 => ?_)
            obtain ⟨c3, fm3⟩ := p3
            have f3 : FR h h3 := f2.tr (fr_fm fm3 (fun k q => tkF_r q))
            have c3' := c3.wr (y := 79) (i := (14 + NT.E t)) (x := nI a) ti (by decide) (fun q => by omega) (fun q => by omega) (fun _ _ => Nat.le_refl _) (fun q => by omega)
            have f3' : FR h (pI h3 79 (14 + NT.E t) (nI a)) := fr_pA f3 (by decide) (by decide) (by show 14 ≤ 14 + NT.E t; omega)
            refine r_iastN dX8_readEdge_37 rfl (by omega) ?_
            refine r_aload_0 dX8_readEdge_38 ?_
            refine r_getR (a := 79) dX8_readEdge_39 fl_X8_28 rfl rfl ?_
            refine r_iload_2 dX8_readEdge_42 ?_
            refine r_ialdN dX8_readEdge_43 rfl (by omega) ?_
            rw [pI_eq]
            refine r_iconst (v := (-1)) dX8_readEdge_44 (by decide) ?_
            refine r_icmp_ne 50 dX8_readEdge_45 (by decide) (fun c_45 => ?_) (fun c_45 => by exact absurd c_45 (nI_ne_m1 (by omega)))
            refine r_aload_0 dX8_readEdge_50 ?_
            refine r_getR (a := 80) dX8_readEdge_51 fl_X8_31 rfl rfl ?_
            refine r_iload_2 dX8_readEdge_54 ?_
            refine r_aload_0 dX8_readEdge_55 ?_
            refine r_aload_0 dX8_readEdge_56 ?_
            refine r_getR (a := 79) dX8_readEdge_57 fl_X8_28 rfl rfl ?_
            refine r_iload_2 dX8_readEdge_60 ?_
            refine r_ialdN dX8_readEdge_61 rfl (by omega) ?_
            rw [pI_eq]
            refine r_cVQ1 mX8_takesJoint dX8_readEdge_62 ml_X8_208 mo_X8_takesJoint rfl (q_tj ok c3' g2 hJ no hj2 (x := nI a) (fun q => hab (nI_jn (by omega) (by omega) q))) (by decide) (fun h4 p4 => ?_)
            obtain ⟨c4, fm4⟩ := p4
            have f4 : FR h h4 := f3'.tr (fr_fm fm4 (fun k q => tkF_r q))
            have c5 := (((c4.wr (y := 80) (i := (14 + NT.E t)) (x := nI b) ti (by decide) (fun q => by omega) (fun q => by omega) (fun _ _ => Nat.le_refl _) (fun q => by omega)).wr (y := 81) (i := (14 + NT.E t)) (x := 0) ti (by decide) (fun q => by omega) (fun q => by omega) (fun _ _ => Nat.le_refl _) (fun q => by omega)).wr (y := 82) (i := (14 + NT.E t)) (x := -2) ti (by decide) (fun q => by omega) (fun q => by omega) (fun _ _ => Nat.le_refl _) (fun q => by omega)).wr (y := 84) (i := (14 + NT.E t)) (x := 0) ti (by decide) (fun q => by omega) (fun q => by omega) (fun _ _ => Nat.le_refl _) (fun q => by omega)
            have f5 : FR h (pI (pI (pI (pI h4 80 (14 + NT.E t) (nI b)) 81 (14 + NT.E t) 0) 82 (14 + NT.E t) (-2)) 84 (14 + NT.E t) 0) := fr_pA (fr_pA (fr_pA (fr_pA f4 (by decide) (by decide) (by show 14 ≤ 14 + NT.E t; omega)) (by decide) (by decide) (by show 14 ≤ 14 + NT.E t; omega)) (by decide) (by decide) (by show 14 ≤ 14 + NT.E t; omega)) (by decide) (by decide) (by show 14 ≤ 14 + NT.E t; omega)
            have r79 : (pI (pI (pI (pI h4 80 (14 + NT.E t) (nI b)) 81 (14 + NT.E t) 0) 82 (14 + NT.E t) (-2)) 84 (14 + NT.E t) 0).1 79 (14 + NT.E t) = nI a := by rw [pI_ne 79 _ (Or.inl (by decide)), pI_ne 79 _ (Or.inl (by decide)), pI_ne 79 _ (Or.inl (by decide)), pI_ne 79 _ (Or.inl (by decide)), (fm4.2.1 79 (by decide) id).1]; exact pI_eq
            have r80 : (pI (pI (pI (pI h4 80 (14 + NT.E t) (nI b)) 81 (14 + NT.E t) 0) 82 (14 + NT.E t) (-2)) 84 (14 + NT.E t) 0).1 80 (14 + NT.E t) = nI b := by rw [pI_ne 80 _ (Or.inl (by decide)), pI_ne 80 _ (Or.inl (by decide)), pI_ne 80 _ (Or.inl (by decide))]; exact pI_eq
            have r81 : (pI (pI (pI (pI h4 80 (14 + NT.E t) (nI b)) 81 (14 + NT.E t) 0) 82 (14 + NT.E t) (-2)) 84 (14 + NT.E t) 0).1 81 (14 + NT.E t) = 0 := by rw [pI_ne 81 _ (Or.inl (by decide)), pI_ne 81 _ (Or.inl (by decide))]; exact pI_eq
            have r82 : (pI (pI (pI (pI h4 80 (14 + NT.E t) (nI b)) 81 (14 + NT.E t) 0) 82 (14 + NT.E t) (-2)) 84 (14 + NT.E t) 0).1 82 (14 + NT.E t) = -2 := by rw [pI_ne 82 _ (Or.inl (by decide))]; exact pI_eq
            have r84 : (pI (pI (pI (pI h4 80 (14 + NT.E t) (nI b)) 81 (14 + NT.E t) 0) 82 (14 + NT.E t) (-2)) 84 (14 + NT.E t) 0).1 84 (14 + NT.E t) = 0 := pI_eq
            refine r_iastN dX8_readEdge_65 rfl (by omega) ?_
            refine r_aload_0 dX8_readEdge_66 ?_
            refine r_getR (a := 80) dX8_readEdge_67 fl_X8_31 rfl rfl ?_
            refine r_iload_2 dX8_readEdge_70 ?_
            refine r_ialdN dX8_readEdge_71 rfl (by omega) ?_
            rw [pI_eq]
            refine r_iconst (v := (-1)) dX8_readEdge_72 (by decide) ?_
            refine r_icmp_ne 78 dX8_readEdge_73 (by decide) (fun c_73 => ?_) (fun c_73 => by exact absurd c_73 (nI_ne_m1 (by omega)))
            refine r_aload_0 dX8_readEdge_78 ?_
            refine r_getR (a := 81) dX8_readEdge_79 fl_X8_34 rfl rfl ?_
            refine r_iload_2 dX8_readEdge_82 ?_
            refine r_iload_1 dX8_readEdge_83 ?_
            refine r_iastN dX8_readEdge_84 rfl (by omega) ?_
            refine r_aload_0 dX8_readEdge_85 ?_
            refine r_getR (a := 82) dX8_readEdge_86 fl_X8_37 rfl rfl ?_
            refine r_iload_2 dX8_readEdge_89 ?_
            refine r_bipush (v := (-2)) dX8_readEdge_90 (by decide) ?_
            refine r_iastN dX8_readEdge_92 rfl (by omega) ?_
            refine r_aload_0 dX8_readEdge_93 ?_
            refine r_getR (a := 84) dX8_readEdge_94 fl_X8_43 rfl rfl ?_
            refine r_iload_2 dX8_readEdge_97 ?_
            refine r_iconst (v := 0) dX8_readEdge_98 (by decide) ?_
            refine r_iastN dX8_readEdge_99 rfl (by omega) ?_
            generalize (pI (pI (pI (pI h4 80 (14 + NT.E t) (nI b)) 81 (14 + NT.E t) 0) 82 (14 + NT.E t) (-2)) 84 (14 + NT.E t) 0) = H5 at c5 f5 r79 r80 r81 r82 r84
            refine r_iload_1 dX8_readEdge_100 ?_
            refine r_iconst (v := 2) dX8_readEdge_101 (by decide) ?_
            refine r_icmp_ne 115 dX8_readEdge_102 (by decide) (fun c_102 => ?_) (fun c_102 => by exact absurd c_102 (by decide))
            refine r_aload_0 dX8_readEdge_115 ?_
            refine r_iconst (v := 1) dX8_readEdge_116 (by decide) ?_
            refine r_bipush (v := 20) dX8_readEdge_117 (by decide) ?_
            refine r_cVQ2 mX8_takesWhole dX8_readEdge_119 ml_X8_201 mo_X8_takesWhole rfl (q_whole ok c5.1 c5.2.1 g3 1 20) (by decide) (fun h6 p6 => ?_)
            have p6 := p6.1 hv
            obtain ⟨c6, f6⟩ := c5.whole p6
            have z6 : ∀ y, y ≠ 74 → h6.1 y = H5.1 y := fun y hy => (p6.2.2.2.2.1 y hy id).1
            rw [b2i_t hv]
            refine r_if_ne 127 dX8_readEdge_122 (by decide) (fun c_122 => ?_) (fun c_122 => by exact absurd c_122 (by decide))
            refine r_aload_0 dX8_readEdge_127 ?_
            refine r_getR (a := 82) dX8_readEdge_128 fl_X8_37 rfl rfl ?_
            refine r_iload_2 dX8_readEdge_131 ?_
            refine r_aload_0 dX8_readEdge_132 ?_
            refine r_getI dX8_readEdge_133 fl_X8_185 rfl ?_
            rw [p6.2.2.1]
            refine r_iastN dX8_readEdge_136 rfl (by omega) ?_
            refine r_aload_0 dX8_readEdge_137 ?_
            refine r_dupr dX8_readEdge_138 ?_
            refine r_getI dX8_readEdge_139 fl_X8_205 rfl ?_
            rw [show (pI h6 82 (14 + NT.E t) (wv B (nx B n (nx B n (nx B n k))))).1 74 26 = nI (NT.E t) from (pI_ne 74 26 (Or.inl (by decide))).trans c6.2.2.2.1]
            refine r_iconst (v := nI 1) dX8_readEdge_142 (by decide) ?_
            refine r_iadd dX8_readEdge_143 ?_
            rw [nI_ad9]
            refine r_putI dX8_readEdge_144 fl_X8_205 rfl rfl rfl ?_
            refine r_iconst (v := 1) dX8_readEdge_147 (by decide) ?_
            refine r_zret dX8_readEdge_148 rfl rfl ?_
            have c7 := c6.wr (y := 82) (i := (14 + NT.E t)) (x := wv B (nx B n (nx B n (nx B n k)))) ti (by decide) (fun q => by omega) (fun q => by omega) (fun _ _ => Nat.le_refl _) (fun q => by omega)
            have q := RMd.fld c7.1 c7.2.1 (j := 26) (by decide) (nI (NT.E t + 1))
            have ad := c7.2.2.addE (kd := 0) (a := a) (b := b) (rr := wv B (nx B n (nx B n (nx B n k)))) (by rw [pI_ne 79 _ (Or.inl (by decide)), z6 79 (by decide)]; exact r79) (by rw [pI_ne 80 _ (Or.inl (by decide)), z6 80 (by decide)]; exact r80) (by rw [pI_ne 81 _ (Or.inl (by decide)), z6 81 (by decide)]; exact r81) (by rw [if_neg (by decide)]; exact pI_eq) (by rw [pI_ne 84 _ (Or.inl (by decide)), z6 84 (by decide)]; exact r84)
            exact ⟨(by first | rfl | exact congrArg (fun x => some (Value.int x)) (b2i_t rfl).symm), fun _ => ⟨q.1, q.2, ad.cnt (NT.E t + 1)⟩, fun z => absurd rfl z, fr_pF (fr_pA (f5.tr f6) (by decide) (by decide) (by show 14 ≤ 14 + NT.E t; omega)) (by decide) (by decide)⟩
          · have e : spRes B n 0 k t nm = (wF B (nx B n (nx B n (nx B n k))) 1 20, (nx B n (nx B n (nx B n k))), t, nm) := by unfold spRes; rw [e0]; show (if (0 : Int32) = 0 then (if wF B (nx B n (nx B n (nx B n k))) 1 20 = 0 then _ else _) else _) = _; rw [if_pos rfl, if_neg hv]
            rw [e]
            refine r_aload_0 dX8_readEdge_0 ?_
            refine r_getI dX8_readEdge_1 fl_X8_205 rfl ?_
            rw [k1]
            refine r_bipush (v := nI 14) dX8_readEdge_4 (by decide) ?_
            refine r_icmpN_ne 15 dX8_readEdge_6 (by decide) (by omega) (by omega) (fun c_6 => ?_) (fun c_6 => by omega)
            refine r_aload_0 dX8_readEdge_15 ?_
            refine r_cWQ0 mX8_goesOn dX8_readEdge_16 ml_X8_188 mo_X8_goesOn rfl (q_goesOn ok c.1 g.1.2.1 c.2.1.2.2.1) (by decide) (fun h2 p2 => ?_)
            obtain ⟨c2, f2⟩ := c.go (k' := (nx B n k)) p2
            have k2 : h2.1 74 26 = nI (NT.E t) := c2.2.2.2.1
            refine r_bipush (v := nI 14) dX8_readEdge_19 (by decide) ?_
            refine r_aload_0 dX8_readEdge_21 ?_
            refine r_getI dX8_readEdge_22 fl_X8_205 rfl ?_
            rw [k2]
            refine r_iadd dX8_readEdge_25 ?_
            rw [nI_ad9]
            refine r_istore_2 dX8_readEdge_26 ?_
            refine r_aload_0 dX8_readEdge_27 ?_
            refine r_getR (a := 79) dX8_readEdge_28 fl_X8_28 rfl rfl ?_
            refine r_iload_2 dX8_readEdge_31 ?_
            refine r_aload_0 dX8_readEdge_32 ?_
            refine r_iconst (v := (-1)) dX8_readEdge_33 (by decide) ?_
            refine r_cVQ1 mX8_takesJoint dX8_readEdge_34 ml_X8_208 mo_X8_takesJoint rfl (q_tj ok c2 g1 hJ no hj1 (x := -1) (nI_ne_m1 (by omega))) (by decide) (fun h3 p3 => ?_)
            obtain ⟨c3, fm3⟩ := p3
            have f3 : FR h h3 := f2.tr (fr_fm fm3 (fun k q => tkF_r q))
            have c3' := c3.wr (y := 79) (i := (14 + NT.E t)) (x := nI a) ti (by decide) (fun q => by omega) (fun q => by omega) (fun _ _ => Nat.le_refl _) (fun q => by omega)
            have f3' : FR h (pI h3 79 (14 + NT.E t) (nI a)) := fr_pA f3 (by decide) (by decide) (by show 14 ≤ 14 + NT.E t; omega)
            refine r_iastN dX8_readEdge_37 rfl (by omega) ?_
            refine r_aload_0 dX8_readEdge_38 ?_
            refine r_getR (a := 79) dX8_readEdge_39 fl_X8_28 rfl rfl ?_
            refine r_iload_2 dX8_readEdge_42 ?_
            refine r_ialdN dX8_readEdge_43 rfl (by omega) ?_
            rw [pI_eq]
            refine r_iconst (v := (-1)) dX8_readEdge_44 (by decide) ?_
            refine r_icmp_ne 50 dX8_readEdge_45 (by decide) (fun c_45 => ?_) (fun c_45 => by exact absurd c_45 (nI_ne_m1 (by omega)))
            refine r_aload_0 dX8_readEdge_50 ?_
            refine r_getR (a := 80) dX8_readEdge_51 fl_X8_31 rfl rfl ?_
            refine r_iload_2 dX8_readEdge_54 ?_
            refine r_aload_0 dX8_readEdge_55 ?_
            refine r_aload_0 dX8_readEdge_56 ?_
            refine r_getR (a := 79) dX8_readEdge_57 fl_X8_28 rfl rfl ?_
            refine r_iload_2 dX8_readEdge_60 ?_
            refine r_ialdN dX8_readEdge_61 rfl (by omega) ?_
            rw [pI_eq]
            refine r_cVQ1 mX8_takesJoint dX8_readEdge_62 ml_X8_208 mo_X8_takesJoint rfl (q_tj ok c3' g2 hJ no hj2 (x := nI a) (fun q => hab (nI_jn (by omega) (by omega) q))) (by decide) (fun h4 p4 => ?_)
            obtain ⟨c4, fm4⟩ := p4
            have f4 : FR h h4 := f3'.tr (fr_fm fm4 (fun k q => tkF_r q))
            have c5 := (((c4.wr (y := 80) (i := (14 + NT.E t)) (x := nI b) ti (by decide) (fun q => by omega) (fun q => by omega) (fun _ _ => Nat.le_refl _) (fun q => by omega)).wr (y := 81) (i := (14 + NT.E t)) (x := 0) ti (by decide) (fun q => by omega) (fun q => by omega) (fun _ _ => Nat.le_refl _) (fun q => by omega)).wr (y := 82) (i := (14 + NT.E t)) (x := -2) ti (by decide) (fun q => by omega) (fun q => by omega) (fun _ _ => Nat.le_refl _) (fun q => by omega)).wr (y := 84) (i := (14 + NT.E t)) (x := 0) ti (by decide) (fun q => by omega) (fun q => by omega) (fun _ _ => Nat.le_refl _) (fun q => by omega)
            have f5 : FR h (pI (pI (pI (pI h4 80 (14 + NT.E t) (nI b)) 81 (14 + NT.E t) 0) 82 (14 + NT.E t) (-2)) 84 (14 + NT.E t) 0) := fr_pA (fr_pA (fr_pA (fr_pA f4 (by decide) (by decide) (by show 14 ≤ 14 + NT.E t; omega)) (by decide) (by decide) (by show 14 ≤ 14 + NT.E t; omega)) (by decide) (by decide) (by show 14 ≤ 14 + NT.E t; omega)) (by decide) (by decide) (by show 14 ≤ 14 + NT.E t; omega)
            have r79 : (pI (pI (pI (pI h4 80 (14 + NT.E t) (nI b)) 81 (14 + NT.E t) 0) 82 (14 + NT.E t) (-2)) 84 (14 + NT.E t) 0).1 79 (14 + NT.E t) = nI a := by rw [pI_ne 79 _ (Or.inl (by decide)), pI_ne 79 _ (Or.inl (by decide)), pI_ne 79 _ (Or.inl (by decide)), pI_ne 79 _ (Or.inl (by decide)), (fm4.2.1 79 (by decide) id).1]; exact pI_eq
            have r80 : (pI (pI (pI (pI h4 80 (14 + NT.E t) (nI b)) 81 (14 + NT.E t) 0) 82 (14 + NT.E t) (-2)) 84 (14 + NT.E t) 0).1 80 (14 + NT.E t) = nI b := by rw [pI_ne 80 _ (Or.inl (by decide)), pI_ne 80 _ (Or.inl (by decide)), pI_ne 80 _ (Or.inl (by decide))]; exact pI_eq
            have r81 : (pI (pI (pI (pI h4 80 (14 + NT.E t) (nI b)) 81 (14 + NT.E t) 0) 82 (14 + NT.E t) (-2)) 84 (14 + NT.E t) 0).1 81 (14 + NT.E t) = 0 := by rw [pI_ne 81 _ (Or.inl (by decide)), pI_ne 81 _ (Or.inl (by decide))]; exact pI_eq
            have r82 : (pI (pI (pI (pI h4 80 (14 + NT.E t) (nI b)) 81 (14 + NT.E t) 0) 82 (14 + NT.E t) (-2)) 84 (14 + NT.E t) 0).1 82 (14 + NT.E t) = -2 := by rw [pI_ne 82 _ (Or.inl (by decide))]; exact pI_eq
            have r84 : (pI (pI (pI (pI h4 80 (14 + NT.E t) (nI b)) 81 (14 + NT.E t) 0) 82 (14 + NT.E t) (-2)) 84 (14 + NT.E t) 0).1 84 (14 + NT.E t) = 0 := pI_eq
            refine r_iastN dX8_readEdge_65 rfl (by omega) ?_
            refine r_aload_0 dX8_readEdge_66 ?_
            refine r_getR (a := 80) dX8_readEdge_67 fl_X8_31 rfl rfl ?_
            refine r_iload_2 dX8_readEdge_70 ?_
            refine r_ialdN dX8_readEdge_71 rfl (by omega) ?_
            rw [pI_eq]
            refine r_iconst (v := (-1)) dX8_readEdge_72 (by decide) ?_
            refine r_icmp_ne 78 dX8_readEdge_73 (by decide) (fun c_73 => ?_) (fun c_73 => by exact absurd c_73 (nI_ne_m1 (by omega)))
            refine r_aload_0 dX8_readEdge_78 ?_
            refine r_getR (a := 81) dX8_readEdge_79 fl_X8_34 rfl rfl ?_
            refine r_iload_2 dX8_readEdge_82 ?_
            refine r_iload_1 dX8_readEdge_83 ?_
            refine r_iastN dX8_readEdge_84 rfl (by omega) ?_
            refine r_aload_0 dX8_readEdge_85 ?_
            refine r_getR (a := 82) dX8_readEdge_86 fl_X8_37 rfl rfl ?_
            refine r_iload_2 dX8_readEdge_89 ?_
            refine r_bipush (v := (-2)) dX8_readEdge_90 (by decide) ?_
            refine r_iastN dX8_readEdge_92 rfl (by omega) ?_
            refine r_aload_0 dX8_readEdge_93 ?_
            refine r_getR (a := 84) dX8_readEdge_94 fl_X8_43 rfl rfl ?_
            refine r_iload_2 dX8_readEdge_97 ?_
            refine r_iconst (v := 0) dX8_readEdge_98 (by decide) ?_
            refine r_iastN dX8_readEdge_99 rfl (by omega) ?_
            generalize (pI (pI (pI (pI h4 80 (14 + NT.E t) (nI b)) 81 (14 + NT.E t) 0) 82 (14 + NT.E t) (-2)) 84 (14 + NT.E t) 0) = H5 at c5 f5 r79 r80 r81 r82 r84
            refine r_iload_1 dX8_readEdge_100 ?_
            refine r_iconst (v := 2) dX8_readEdge_101 (by decide) ?_
            refine r_icmp_ne 115 dX8_readEdge_102 (by decide) (fun c_102 => ?_) (fun c_102 => by exact absurd c_102 (by decide))
            refine r_aload_0 dX8_readEdge_115 ?_
            refine r_iconst (v := 1) dX8_readEdge_116 (by decide) ?_
            refine r_bipush (v := 20) dX8_readEdge_117 (by decide) ?_
            refine r_cVQ2 mX8_takesWhole dX8_readEdge_119 ml_X8_201 mo_X8_takesWhole rfl (q_whole ok c5.1 c5.2.1 g3 1 20) (by decide) (fun h6 p6 => ?_)
            have e6 := p6.2 hv
            rw [b2i_f hv]
            refine r_if_ne 127 dX8_readEdge_122 (by decide) (fun c_122 => by exact absurd rfl c_122) (fun c_122 => ?_)
            refine r_iconst (v := 0) dX8_readEdge_125 (by decide) ?_
            refine r_zret dX8_readEdge_126 rfl rfl ?_
            rw [e6]
            exact ⟨(by first | rfl | exact congrArg (fun x => some (Value.int x)) (b2i_f hv).symm), fun q => absurd q hv, fun _ => erH_b, erH_f f5⟩

set_option maxRecDepth 100000 in
set_option maxHeartbeats 4000000 in
theorem q_edge1 {h : PH} {n : Nat} {B : Nat → Nat} (ok : OKB n B) {k : TK} {t : NT} {nm : NMS} (c : RMd h n B k t nm) (g : TGd n B k) (ti : TI t) (no : nmOK t nm) : Con mX8_readEdge 9 [.ref 74, .int 1] h (fun a h' => a = some (.int (b2i ((spRes B n 1 k t nm).1 = 0))) ∧ MOut h h' n B (spRes B n 1 k t nm)) := by
  have hJ := ti.1
  have hE := ti.2.1
  have k1 : h.1 74 26 = nI (NT.E t) := c.2.2.2.1
  have g1 := g.nx.1
  have g2 := g1.nx.1
  have g3 := g2.nx.1
  refine Con.mk (by decide) ?_
  show RT _ _ 0 [some (.ref 74), some (.int 1), none] [] _ _
  by_cases h14 : NT.E t = 14
  · have e0 : spEnds B n k t nm = (4, k, 0, 0) := by unfold spEnds; rw [if_pos h14]
    have e : spRes B n 1 k t nm = (4, k, t, nm) := by unfold spRes; rw [e0]; exact if_neg (show ¬ ((4 : Int32) = 0) by decide)
    rw [e]
    refine r_aload_0 dX8_readEdge_0 ?_
    refine r_getI dX8_readEdge_1 fl_X8_205 rfl ?_
    rw [k1]
    refine r_bipush (v := nI 14) dX8_readEdge_4 (by decide) ?_
    refine r_icmpN_ne 15 dX8_readEdge_6 (by decide) (by omega) (by omega) (fun c_6 => by omega) (fun c_6 => ?_)
    refine r_aload_0 dX8_readEdge_9 ?_
    refine r_iconst (v := 4) dX8_readEdge_10 (by decide) ?_
    refine r_cV1 mX8_errs dX8_readEdge_11 ml_X8_181 mo_X8_errs rfl (q_errs c.2.1 4) (by decide) ?_
    refine r_zret dX8_readEdge_14 rfl rfl ?_
    exact ⟨(by first | rfl | exact congrArg (fun x => some (Value.int x)) (b2i_f (show ¬ ((4 : Int32) = 0) by decide)).symm), fun q => absurd q (show ¬ ((4 : Int32) = 0) by decide), fun _ => erH_b, erH_f FR.rf⟩
  · cases hj1 : jA B (nx B n k) t nm with
    | none =>
      have e0 : spEnds B n k t nm = (jFl B (nx B n k), (nx B n k), 0, 0) := by unfold spEnds; rw [if_neg h14, hj1]
      have e : spRes B n 1 k t nm = (jFl B (nx B n k), (nx B n k), t, nm) := by unfold spRes; rw [e0]; exact if_neg jFl_n
      rw [e]
      refine r_aload_0 dX8_readEdge_0 ?_
      refine r_getI dX8_readEdge_1 fl_X8_205 rfl ?_
      rw [k1]
      refine r_bipush (v := nI 14) dX8_readEdge_4 (by decide) ?_
      refine r_icmpN_ne 15 dX8_readEdge_6 (by decide) (by omega) (by omega) (fun c_6 => ?_) (fun c_6 => by omega)
      refine r_aload_0 dX8_readEdge_15 ?_
      refine r_cWQ0 mX8_goesOn dX8_readEdge_16 ml_X8_188 mo_X8_goesOn rfl (q_goesOn ok c.1 g.1.2.1 c.2.1.2.2.1) (by decide) (fun h2 p2 => ?_)
      obtain ⟨c2, f2⟩ := c.go (k' := (nx B n k)) p2
      have k2 : h2.1 74 26 = nI (NT.E t) := c2.2.2.2.1
      refine r_bipush (v := nI 14) dX8_readEdge_19 (by decide) ?_
      refine r_aload_0 dX8_readEdge_21 ?_
      refine r_getI dX8_readEdge_22 fl_X8_205 rfl ?_
      rw [k2]
      refine r_iadd dX8_readEdge_25 ?_
      rw [nI_ad9]
      refine r_istore_2 dX8_readEdge_26 ?_
      refine r_aload_0 dX8_readEdge_27 ?_
      refine r_getR (a := 79) dX8_readEdge_28 fl_X8_28 rfl rfl ?_
      refine r_iload_2 dX8_readEdge_31 ?_
      refine r_aload_0 dX8_readEdge_32 ?_
      refine r_iconst (v := (-1)) dX8_readEdge_33 (by decide) ?_
      refine r_cV1 mX8_takesJoint dX8_readEdge_34 ml_X8_208 mo_X8_takesJoint rfl (q_tjn ok c2 g1 hJ no (x := -1) (Or.inl hj1)) (by decide) ?_
      refine r_iastN dX8_readEdge_37 rfl (by omega) ?_
      refine r_aload_0 dX8_readEdge_38 ?_
      refine r_getR (a := 79) dX8_readEdge_39 fl_X8_28 rfl rfl ?_
      refine r_iload_2 dX8_readEdge_42 ?_
      refine r_ialdN dX8_readEdge_43 rfl (by omega) ?_
      rw [pI_eq]
      refine r_iconst (v := (-1)) dX8_readEdge_44 (by decide) ?_
      refine r_icmp_ne 50 dX8_readEdge_45 (by decide) (fun c_45 => by exact absurd rfl c_45) (fun c_45 => ?_)
      refine r_iconst (v := 0) dX8_readEdge_48 (by decide) ?_
      refine r_zret dX8_readEdge_49 rfl rfl ?_
      exact ⟨(by first | rfl | exact congrArg (fun x => some (Value.int x)) (b2i_f jFl_n).symm), fun q => absurd q jFl_n, fun _ => ⟨(pI_ne 74 23 (Or.inl (by decide))).trans erH_b.1, (pI_ne 74 24 (Or.inl (by decide))).trans erH_b.2⟩, fr_pA (erH_f f2) (by decide) (by decide) (by show 14 ≤ 14 + NT.E t; omega)⟩
    | some a =>
      have ha := (jA_3 hj1).2
      cases hj2 : jA B (nx B n (nx B n k)) t nm with
      | none =>
        have e0 : spEnds B n k t nm = (jFl B (nx B n (nx B n k)), (nx B n (nx B n k)), 0, 0) := by unfold spEnds; rw [if_neg h14, hj1]; simp only; rw [hj2]
        have e : spRes B n 1 k t nm = (jFl B (nx B n (nx B n k)), (nx B n (nx B n k)), t, nm) := by unfold spRes; rw [e0]; exact if_neg jFl_n
        rw [e]
        refine r_aload_0 dX8_readEdge_0 ?_
        refine r_getI dX8_readEdge_1 fl_X8_205 rfl ?_
        rw [k1]
        refine r_bipush (v := nI 14) dX8_readEdge_4 (by decide) ?_
        refine r_icmpN_ne 15 dX8_readEdge_6 (by decide) (by omega) (by omega) (fun c_6 => ?_) (fun c_6 => by omega)
        refine r_aload_0 dX8_readEdge_15 ?_
        refine r_cWQ0 mX8_goesOn dX8_readEdge_16 ml_X8_188 mo_X8_goesOn rfl (q_goesOn ok c.1 g.1.2.1 c.2.1.2.2.1) (by decide) (fun h2 p2 => ?_)
        obtain ⟨c2, f2⟩ := c.go (k' := (nx B n k)) p2
        have k2 : h2.1 74 26 = nI (NT.E t) := c2.2.2.2.1
        refine r_bipush (v := nI 14) dX8_readEdge_19 (by decide) ?_
        refine r_aload_0 dX8_readEdge_21 ?_
        refine r_getI dX8_readEdge_22 fl_X8_205 rfl ?_
        rw [k2]
        refine r_iadd dX8_readEdge_25 ?_
        rw [nI_ad9]
        refine r_istore_2 dX8_readEdge_26 ?_
        refine r_aload_0 dX8_readEdge_27 ?_
        refine r_getR (a := 79) dX8_readEdge_28 fl_X8_28 rfl rfl ?_
        refine r_iload_2 dX8_readEdge_31 ?_
        refine r_aload_0 dX8_readEdge_32 ?_
        refine r_iconst (v := (-1)) dX8_readEdge_33 (by decide) ?_
        refine r_cVQ1 mX8_takesJoint dX8_readEdge_34 ml_X8_208 mo_X8_takesJoint rfl (q_tj ok c2 g1 hJ no hj1 (x := -1) (nI_ne_m1 (by omega))) (by decide) (fun h3 p3 => ?_)
        obtain ⟨c3, fm3⟩ := p3
        have f3 : FR h h3 := f2.tr (fr_fm fm3 (fun k q => tkF_r q))
        have c3' := c3.wr (y := 79) (i := (14 + NT.E t)) (x := nI a) ti (by decide) (fun q => by omega) (fun q => by omega) (fun _ _ => Nat.le_refl _) (fun q => by omega)
        have f3' : FR h (pI h3 79 (14 + NT.E t) (nI a)) := fr_pA f3 (by decide) (by decide) (by show 14 ≤ 14 + NT.E t; omega)
        refine r_iastN dX8_readEdge_37 rfl (by omega) ?_
        refine r_aload_0 dX8_readEdge_38 ?_
        refine r_getR (a := 79) dX8_readEdge_39 fl_X8_28 rfl rfl ?_
        refine r_iload_2 dX8_readEdge_42 ?_
        refine r_ialdN dX8_readEdge_43 rfl (by omega) ?_
        rw [pI_eq]
        refine r_iconst (v := (-1)) dX8_readEdge_44 (by decide) ?_
        refine r_icmp_ne 50 dX8_readEdge_45 (by decide) (fun c_45 => ?_) (fun c_45 => by exact absurd c_45 (nI_ne_m1 (by omega)))
        refine r_aload_0 dX8_readEdge_50 ?_
        refine r_getR (a := 80) dX8_readEdge_51 fl_X8_31 rfl rfl ?_
        refine r_iload_2 dX8_readEdge_54 ?_
        refine r_aload_0 dX8_readEdge_55 ?_
        refine r_aload_0 dX8_readEdge_56 ?_
        refine r_getR (a := 79) dX8_readEdge_57 fl_X8_28 rfl rfl ?_
        refine r_iload_2 dX8_readEdge_60 ?_
        refine r_ialdN dX8_readEdge_61 rfl (by omega) ?_
        rw [pI_eq]
        refine r_cV1 mX8_takesJoint dX8_readEdge_62 ml_X8_208 mo_X8_takesJoint rfl (q_tjn ok c3' g2 hJ no (x := nI a) (Or.inl hj2)) (by decide) ?_
        refine r_iastN dX8_readEdge_65 rfl (by omega) ?_
        refine r_aload_0 dX8_readEdge_66 ?_
        refine r_getR (a := 80) dX8_readEdge_67 fl_X8_31 rfl rfl ?_
        refine r_iload_2 dX8_readEdge_70 ?_
        refine r_ialdN dX8_readEdge_71 rfl (by omega) ?_
        rw [pI_eq]
        refine r_iconst (v := (-1)) dX8_readEdge_72 (by decide) ?_
        refine r_icmp_ne 78 dX8_readEdge_73 (by decide) (fun c_73 => by exact absurd rfl c_73) (fun c_73 => ?_)
        refine r_iconst (v := 0) dX8_readEdge_76 (by decide) ?_
        refine r_zret dX8_readEdge_77 rfl rfl ?_
        exact ⟨(by first | rfl | exact congrArg (fun x => some (Value.int x)) (b2i_f jFl_n).symm), fun q => absurd q jFl_n, fun _ => ⟨(pI_ne 74 23 (Or.inl (by decide))).trans erH_b.1, (pI_ne 74 24 (Or.inl (by decide))).trans erH_b.2⟩, fr_pA (erH_f f3') (by decide) (by decide) (by show 14 ≤ 14 + NT.E t; omega)⟩
      | some b =>
        have hb := (jA_3 hj2).2
        by_cases hab : b = a
        · have e0 : spEnds B n k t nm = (jFl B (nx B n (nx B n k)), (nx B n (nx B n k)), 0, 0) := by unfold spEnds; rw [if_neg h14, hj1]; simp only; rw [hj2]; simp only; rw [if_pos hab, (jA_3 hj2).1]
          have e : spRes B n 1 k t nm = (jFl B (nx B n (nx B n k)), (nx B n (nx B n k)), t, nm) := by unfold spRes; rw [e0]; exact if_neg jFl_n
          rw [e]
          refine r_aload_0 dX8_readEdge_0 ?_
          refine r_getI dX8_readEdge_1 fl_X8_205 rfl ?_
          rw [k1]
          refine r_bipush (v := nI 14) dX8_readEdge_4 (by decide) ?_
          refine r_icmpN_ne 15 dX8_readEdge_6 (by decide) (by omega) (by omega) (fun c_6 => ?_) (fun c_6 => by omega)
          refine r_aload_0 dX8_readEdge_15 ?_
          refine r_cWQ0 mX8_goesOn dX8_readEdge_16 ml_X8_188 mo_X8_goesOn rfl (q_goesOn ok c.1 g.1.2.1 c.2.1.2.2.1) (by decide) (fun h2 p2 => ?_)
          obtain ⟨c2, f2⟩ := c.go (k' := (nx B n k)) p2
          have k2 : h2.1 74 26 = nI (NT.E t) := c2.2.2.2.1
          refine r_bipush (v := nI 14) dX8_readEdge_19 (by decide) ?_
          refine r_aload_0 dX8_readEdge_21 ?_
          refine r_getI dX8_readEdge_22 fl_X8_205 rfl ?_
          rw [k2]
          refine r_iadd dX8_readEdge_25 ?_
          rw [nI_ad9]
          refine r_istore_2 dX8_readEdge_26 ?_
          refine r_aload_0 dX8_readEdge_27 ?_
          refine r_getR (a := 79) dX8_readEdge_28 fl_X8_28 rfl rfl ?_
          refine r_iload_2 dX8_readEdge_31 ?_
          refine r_aload_0 dX8_readEdge_32 ?_
          refine r_iconst (v := (-1)) dX8_readEdge_33 (by decide) ?_
          refine r_cVQ1 mX8_takesJoint dX8_readEdge_34 ml_X8_208 mo_X8_takesJoint rfl (q_tj ok c2 g1 hJ no hj1 (x := -1) (nI_ne_m1 (by omega))) (by decide) (fun h3 p3 => ?_)
          obtain ⟨c3, fm3⟩ := p3
          have f3 : FR h h3 := f2.tr (fr_fm fm3 (fun k q => tkF_r q))
          have c3' := c3.wr (y := 79) (i := (14 + NT.E t)) (x := nI a) ti (by decide) (fun q => by omega) (fun q => by omega) (fun _ _ => Nat.le_refl _) (fun q => by omega)
          have f3' : FR h (pI h3 79 (14 + NT.E t) (nI a)) := fr_pA f3 (by decide) (by decide) (by show 14 ≤ 14 + NT.E t; omega)
          refine r_iastN dX8_readEdge_37 rfl (by omega) ?_
          refine r_aload_0 dX8_readEdge_38 ?_
          refine r_getR (a := 79) dX8_readEdge_39 fl_X8_28 rfl rfl ?_
          refine r_iload_2 dX8_readEdge_42 ?_
          refine r_ialdN dX8_readEdge_43 rfl (by omega) ?_
          rw [pI_eq]
          refine r_iconst (v := (-1)) dX8_readEdge_44 (by decide) ?_
          refine r_icmp_ne 50 dX8_readEdge_45 (by decide) (fun c_45 => ?_) (fun c_45 => by exact absurd c_45 (nI_ne_m1 (by omega)))
          refine r_aload_0 dX8_readEdge_50 ?_
          refine r_getR (a := 80) dX8_readEdge_51 fl_X8_31 rfl rfl ?_
          refine r_iload_2 dX8_readEdge_54 ?_
          refine r_aload_0 dX8_readEdge_55 ?_
          refine r_aload_0 dX8_readEdge_56 ?_
          refine r_getR (a := 79) dX8_readEdge_57 fl_X8_28 rfl rfl ?_
          refine r_iload_2 dX8_readEdge_60 ?_
          refine r_ialdN dX8_readEdge_61 rfl (by omega) ?_
          rw [pI_eq]
          refine r_cV1 mX8_takesJoint dX8_readEdge_62 ml_X8_208 mo_X8_takesJoint rfl (q_tjn ok c3' g2 hJ no (x := nI a) (Or.inr ⟨b, hj2, by rw [hab]⟩)) (by decide) ?_
          refine r_iastN dX8_readEdge_65 rfl (by omega) ?_
          refine r_aload_0 dX8_readEdge_66 ?_
          refine r_getR (a := 80) dX8_readEdge_67 fl_X8_31 rfl rfl ?_
          refine r_iload_2 dX8_readEdge_70 ?_
          refine r_ialdN dX8_readEdge_71 rfl (by omega) ?_
          rw [pI_eq]
          refine r_iconst (v := (-1)) dX8_readEdge_72 (by decide) ?_
          refine r_icmp_ne 78 dX8_readEdge_73 (by decide) (fun c_73 => by exact absurd rfl c_73) (fun c_73 => ?_)
          refine r_iconst (v := 0) dX8_readEdge_76 (by decide) ?_
          refine r_zret dX8_readEdge_77 rfl rfl ?_
          exact ⟨(by first | rfl | exact congrArg (fun x => some (Value.int x)) (b2i_f jFl_n).symm), fun q => absurd q jFl_n, fun _ => ⟨(pI_ne 74 23 (Or.inl (by decide))).trans erH_b.1, (pI_ne 74 24 (Or.inl (by decide))).trans erH_b.2⟩, fr_pA (erH_f f3') (by decide) (by decide) (by show 14 ≤ 14 + NT.E t; omega)⟩
        · have e0 : spEnds B n k t nm = (0, (nx B n (nx B n (nx B n k))), a, b) := by unfold spEnds; rw [if_neg h14, hj1]; simp only; rw [hj2]; simp only; rw [if_neg hab]
          by_cases hv : wF B (nx B n (nx B n (nx B n k))) 1 20 = 0
          · have e : spRes B n 1 k t nm = (0, nx B n (nx B n (nx B n (nx B n k))), adE t 1 a b (wv B (nx B n (nx B n (nx B n k)))), nm) := by unfold spRes; rw [e0]; show (if (0 : Int32) = 0 then (if wF B (nx B n (nx B n (nx B n k))) 1 20 = 0 then _ else _) else _) = _; rw [if_pos rfl, if_pos hv]
            rw [e]
            refine r_aload_0 dX8_readEdge_0 ?_
            refine r_getI dX8_readEdge_1 fl_X8_205 rfl ?_
            rw [k1]
            refine r_bipush (v := nI 14) dX8_readEdge_4 (by decide) ?_
            refine r_icmpN_ne 15 dX8_readEdge_6 (by decide) (by omega) (by omega) (fun c_6 => ?_) (fun c_6 => by omega)
            refine r_aload_0 dX8_readEdge_15 ?_
            refine r_cWQ0 mX8_goesOn dX8_readEdge_16 ml_X8_188 mo_X8_goesOn rfl (q_goesOn ok c.1 g.1.2.1 c.2.1.2.2.1) (by decide) (fun h2 p2 => ?_)
            obtain ⟨c2, f2⟩ := c.go (k' := (nx B n k)) p2
            have k2 : h2.1 74 26 = nI (NT.E t) := c2.2.2.2.1
            refine r_bipush (v := nI 14) dX8_readEdge_19 (by decide) ?_
            refine r_aload_0 dX8_readEdge_21 ?_
            refine r_getI dX8_readEdge_22 fl_X8_205 rfl ?_
            rw [k2]
            refine r_iadd dX8_readEdge_25 ?_
            rw [nI_ad9]
            refine r_istore_2 dX8_readEdge_26 ?_
            refine r_aload_0 dX8_readEdge_27 ?_
            refine r_getR (a := 79) dX8_readEdge_28 fl_X8_28 rfl rfl ?_
            refine r_iload_2 dX8_readEdge_31 ?_
            refine r_aload_0 dX8_readEdge_32 ?_
            refine r_iconst (v := (-1)) dX8_readEdge_33 (by decide) ?_
            refine r_cVQ1 mX8_takesJoint dX8_readEdge_34 ml_X8_208 mo_X8_takesJoint rfl (q_tj ok c2 g1 hJ no hj1 (x := -1) (nI_ne_m1 (by omega))) (by decide) (fun h3 p3 => ?_)
            obtain ⟨c3, fm3⟩ := p3
            have f3 : FR h h3 := f2.tr (fr_fm fm3 (fun k q => tkF_r q))
            have c3' := c3.wr (y := 79) (i := (14 + NT.E t)) (x := nI a) ti (by decide) (fun q => by omega) (fun q => by omega) (fun _ _ => Nat.le_refl _) (fun q => by omega)
            have f3' : FR h (pI h3 79 (14 + NT.E t) (nI a)) := fr_pA f3 (by decide) (by decide) (by show 14 ≤ 14 + NT.E t; omega)
            refine r_iastN dX8_readEdge_37 rfl (by omega) ?_
            refine r_aload_0 dX8_readEdge_38 ?_
            refine r_getR (a := 79) dX8_readEdge_39 fl_X8_28 rfl rfl ?_
            refine r_iload_2 dX8_readEdge_42 ?_
            refine r_ialdN dX8_readEdge_43 rfl (by omega) ?_
            rw [pI_eq]
            refine r_iconst (v := (-1)) dX8_readEdge_44 (by decide) ?_
            refine r_icmp_ne 50 dX8_readEdge_45 (by decide) (fun c_45 => ?_) (fun c_45 => by exact absurd c_45 (nI_ne_m1 (by omega)))
            refine r_aload_0 dX8_readEdge_50 ?_
            refine r_getR (a := 80) dX8_readEdge_51 fl_X8_31 rfl rfl ?_
            refine r_iload_2 dX8_readEdge_54 ?_
            refine r_aload_0 dX8_readEdge_55 ?_
            refine r_aload_0 dX8_readEdge_56 ?_
            refine r_getR (a := 79) dX8_readEdge_57 fl_X8_28 rfl rfl ?_
            refine r_iload_2 dX8_readEdge_60 ?_
            refine r_ialdN dX8_readEdge_61 rfl (by omega) ?_
            rw [pI_eq]
            refine r_cVQ1 mX8_takesJoint dX8_readEdge_62 ml_X8_208 mo_X8_takesJoint rfl (q_tj ok c3' g2 hJ no hj2 (x := nI a) (fun q => hab (nI_jn (by omega) (by omega) q))) (by decide) (fun h4 p4 => ?_)
            obtain ⟨c4, fm4⟩ := p4
            have f4 : FR h h4 := f3'.tr (fr_fm fm4 (fun k q => tkF_r q))
            have c5 := (((c4.wr (y := 80) (i := (14 + NT.E t)) (x := nI b) ti (by decide) (fun q => by omega) (fun q => by omega) (fun _ _ => Nat.le_refl _) (fun q => by omega)).wr (y := 81) (i := (14 + NT.E t)) (x := 1) ti (by decide) (fun q => by omega) (fun q => by omega) (fun _ _ => Nat.le_refl _) (fun q => by omega)).wr (y := 82) (i := (14 + NT.E t)) (x := -2) ti (by decide) (fun q => by omega) (fun q => by omega) (fun _ _ => Nat.le_refl _) (fun q => by omega)).wr (y := 84) (i := (14 + NT.E t)) (x := 0) ti (by decide) (fun q => by omega) (fun q => by omega) (fun _ _ => Nat.le_refl _) (fun q => by omega)
            have f5 : FR h (pI (pI (pI (pI h4 80 (14 + NT.E t) (nI b)) 81 (14 + NT.E t) 1) 82 (14 + NT.E t) (-2)) 84 (14 + NT.E t) 0) := fr_pA (fr_pA (fr_pA (fr_pA f4 (by decide) (by decide) (by show 14 ≤ 14 + NT.E t; omega)) (by decide) (by decide) (by show 14 ≤ 14 + NT.E t; omega)) (by decide) (by decide) (by show 14 ≤ 14 + NT.E t; omega)) (by decide) (by decide) (by show 14 ≤ 14 + NT.E t; omega)
            have r79 : (pI (pI (pI (pI h4 80 (14 + NT.E t) (nI b)) 81 (14 + NT.E t) 1) 82 (14 + NT.E t) (-2)) 84 (14 + NT.E t) 0).1 79 (14 + NT.E t) = nI a := by rw [pI_ne 79 _ (Or.inl (by decide)), pI_ne 79 _ (Or.inl (by decide)), pI_ne 79 _ (Or.inl (by decide)), pI_ne 79 _ (Or.inl (by decide)), (fm4.2.1 79 (by decide) id).1]; exact pI_eq
            have r80 : (pI (pI (pI (pI h4 80 (14 + NT.E t) (nI b)) 81 (14 + NT.E t) 1) 82 (14 + NT.E t) (-2)) 84 (14 + NT.E t) 0).1 80 (14 + NT.E t) = nI b := by rw [pI_ne 80 _ (Or.inl (by decide)), pI_ne 80 _ (Or.inl (by decide)), pI_ne 80 _ (Or.inl (by decide))]; exact pI_eq
            have r81 : (pI (pI (pI (pI h4 80 (14 + NT.E t) (nI b)) 81 (14 + NT.E t) 1) 82 (14 + NT.E t) (-2)) 84 (14 + NT.E t) 0).1 81 (14 + NT.E t) = 1 := by rw [pI_ne 81 _ (Or.inl (by decide)), pI_ne 81 _ (Or.inl (by decide))]; exact pI_eq
            have r82 : (pI (pI (pI (pI h4 80 (14 + NT.E t) (nI b)) 81 (14 + NT.E t) 1) 82 (14 + NT.E t) (-2)) 84 (14 + NT.E t) 0).1 82 (14 + NT.E t) = -2 := by rw [pI_ne 82 _ (Or.inl (by decide))]; exact pI_eq
            have r84 : (pI (pI (pI (pI h4 80 (14 + NT.E t) (nI b)) 81 (14 + NT.E t) 1) 82 (14 + NT.E t) (-2)) 84 (14 + NT.E t) 0).1 84 (14 + NT.E t) = 0 := pI_eq
            refine r_iastN dX8_readEdge_65 rfl (by omega) ?_
            refine r_aload_0 dX8_readEdge_66 ?_
            refine r_getR (a := 80) dX8_readEdge_67 fl_X8_31 rfl rfl ?_
            refine r_iload_2 dX8_readEdge_70 ?_
            refine r_ialdN dX8_readEdge_71 rfl (by omega) ?_
            rw [pI_eq]
            refine r_iconst (v := (-1)) dX8_readEdge_72 (by decide) ?_
            refine r_icmp_ne 78 dX8_readEdge_73 (by decide) (fun c_73 => ?_) (fun c_73 => by exact absurd c_73 (nI_ne_m1 (by omega)))
            refine r_aload_0 dX8_readEdge_78 ?_
            refine r_getR (a := 81) dX8_readEdge_79 fl_X8_34 rfl rfl ?_
            refine r_iload_2 dX8_readEdge_82 ?_
            refine r_iload_1 dX8_readEdge_83 ?_
            refine r_iastN dX8_readEdge_84 rfl (by omega) ?_
            refine r_aload_0 dX8_readEdge_85 ?_
            refine r_getR (a := 82) dX8_readEdge_86 fl_X8_37 rfl rfl ?_
            refine r_iload_2 dX8_readEdge_89 ?_
            refine r_bipush (v := (-2)) dX8_readEdge_90 (by decide) ?_
            refine r_iastN dX8_readEdge_92 rfl (by omega) ?_
            refine r_aload_0 dX8_readEdge_93 ?_
            refine r_getR (a := 84) dX8_readEdge_94 fl_X8_43 rfl rfl ?_
            refine r_iload_2 dX8_readEdge_97 ?_
            refine r_iconst (v := 0) dX8_readEdge_98 (by decide) ?_
            refine r_iastN dX8_readEdge_99 rfl (by omega) ?_
            generalize (pI (pI (pI (pI h4 80 (14 + NT.E t) (nI b)) 81 (14 + NT.E t) 1) 82 (14 + NT.E t) (-2)) 84 (14 + NT.E t) 0) = H5 at c5 f5 r79 r80 r81 r82 r84
            refine r_iload_1 dX8_readEdge_100 ?_
            refine r_iconst (v := 2) dX8_readEdge_101 (by decide) ?_
            refine r_icmp_ne 115 dX8_readEdge_102 (by decide) (fun c_102 => ?_) (fun c_102 => by exact absurd c_102 (by decide))
            refine r_aload_0 dX8_readEdge_115 ?_
            refine r_iconst (v := 1) dX8_readEdge_116 (by decide) ?_
            refine r_bipush (v := 20) dX8_readEdge_117 (by decide) ?_
            refine r_cVQ2 mX8_takesWhole dX8_readEdge_119 ml_X8_201 mo_X8_takesWhole rfl (q_whole ok c5.1 c5.2.1 g3 1 20) (by decide) (fun h6 p6 => ?_)
            have p6 := p6.1 hv
            obtain ⟨c6, f6⟩ := c5.whole p6
            have z6 : ∀ y, y ≠ 74 → h6.1 y = H5.1 y := fun y hy => (p6.2.2.2.2.1 y hy id).1
            rw [b2i_t hv]
            refine r_if_ne 127 dX8_readEdge_122 (by decide) (fun c_122 => ?_) (fun c_122 => by exact absurd c_122 (by decide))
            refine r_aload_0 dX8_readEdge_127 ?_
            refine r_getR (a := 82) dX8_readEdge_128 fl_X8_37 rfl rfl ?_
            refine r_iload_2 dX8_readEdge_131 ?_
            refine r_aload_0 dX8_readEdge_132 ?_
            refine r_getI dX8_readEdge_133 fl_X8_185 rfl ?_
            rw [p6.2.2.1]
            refine r_iastN dX8_readEdge_136 rfl (by omega) ?_
            refine r_aload_0 dX8_readEdge_137 ?_
            refine r_dupr dX8_readEdge_138 ?_
            refine r_getI dX8_readEdge_139 fl_X8_205 rfl ?_
            rw [show (pI h6 82 (14 + NT.E t) (wv B (nx B n (nx B n (nx B n k))))).1 74 26 = nI (NT.E t) from (pI_ne 74 26 (Or.inl (by decide))).trans c6.2.2.2.1]
            refine r_iconst (v := nI 1) dX8_readEdge_142 (by decide) ?_
            refine r_iadd dX8_readEdge_143 ?_
            rw [nI_ad9]
            refine r_putI dX8_readEdge_144 fl_X8_205 rfl rfl rfl ?_
            refine r_iconst (v := 1) dX8_readEdge_147 (by decide) ?_
            refine r_zret dX8_readEdge_148 rfl rfl ?_
            have c7 := c6.wr (y := 82) (i := (14 + NT.E t)) (x := wv B (nx B n (nx B n (nx B n k)))) ti (by decide) (fun q => by omega) (fun q => by omega) (fun _ _ => Nat.le_refl _) (fun q => by omega)
            have q := RMd.fld c7.1 c7.2.1 (j := 26) (by decide) (nI (NT.E t + 1))
            have ad := c7.2.2.addE (kd := 1) (a := a) (b := b) (rr := wv B (nx B n (nx B n (nx B n k)))) (by rw [pI_ne 79 _ (Or.inl (by decide)), z6 79 (by decide)]; exact r79) (by rw [pI_ne 80 _ (Or.inl (by decide)), z6 80 (by decide)]; exact r80) (by rw [pI_ne 81 _ (Or.inl (by decide)), z6 81 (by decide)]; exact r81) (by rw [if_neg (by decide)]; exact pI_eq) (by rw [pI_ne 84 _ (Or.inl (by decide)), z6 84 (by decide)]; exact r84)
            exact ⟨(by first | rfl | exact congrArg (fun x => some (Value.int x)) (b2i_t rfl).symm), fun _ => ⟨q.1, q.2, ad.cnt (NT.E t + 1)⟩, fun z => absurd rfl z, fr_pF (fr_pA (f5.tr f6) (by decide) (by decide) (by show 14 ≤ 14 + NT.E t; omega)) (by decide) (by decide)⟩
          · have e : spRes B n 1 k t nm = (wF B (nx B n (nx B n (nx B n k))) 1 20, (nx B n (nx B n (nx B n k))), t, nm) := by unfold spRes; rw [e0]; show (if (0 : Int32) = 0 then (if wF B (nx B n (nx B n (nx B n k))) 1 20 = 0 then _ else _) else _) = _; rw [if_pos rfl, if_neg hv]
            rw [e]
            refine r_aload_0 dX8_readEdge_0 ?_
            refine r_getI dX8_readEdge_1 fl_X8_205 rfl ?_
            rw [k1]
            refine r_bipush (v := nI 14) dX8_readEdge_4 (by decide) ?_
            refine r_icmpN_ne 15 dX8_readEdge_6 (by decide) (by omega) (by omega) (fun c_6 => ?_) (fun c_6 => by omega)
            refine r_aload_0 dX8_readEdge_15 ?_
            refine r_cWQ0 mX8_goesOn dX8_readEdge_16 ml_X8_188 mo_X8_goesOn rfl (q_goesOn ok c.1 g.1.2.1 c.2.1.2.2.1) (by decide) (fun h2 p2 => ?_)
            obtain ⟨c2, f2⟩ := c.go (k' := (nx B n k)) p2
            have k2 : h2.1 74 26 = nI (NT.E t) := c2.2.2.2.1
            refine r_bipush (v := nI 14) dX8_readEdge_19 (by decide) ?_
            refine r_aload_0 dX8_readEdge_21 ?_
            refine r_getI dX8_readEdge_22 fl_X8_205 rfl ?_
            rw [k2]
            refine r_iadd dX8_readEdge_25 ?_
            rw [nI_ad9]
            refine r_istore_2 dX8_readEdge_26 ?_
            refine r_aload_0 dX8_readEdge_27 ?_
            refine r_getR (a := 79) dX8_readEdge_28 fl_X8_28 rfl rfl ?_
            refine r_iload_2 dX8_readEdge_31 ?_
            refine r_aload_0 dX8_readEdge_32 ?_
            refine r_iconst (v := (-1)) dX8_readEdge_33 (by decide) ?_
            refine r_cVQ1 mX8_takesJoint dX8_readEdge_34 ml_X8_208 mo_X8_takesJoint rfl (q_tj ok c2 g1 hJ no hj1 (x := -1) (nI_ne_m1 (by omega))) (by decide) (fun h3 p3 => ?_)
            obtain ⟨c3, fm3⟩ := p3
            have f3 : FR h h3 := f2.tr (fr_fm fm3 (fun k q => tkF_r q))
            have c3' := c3.wr (y := 79) (i := (14 + NT.E t)) (x := nI a) ti (by decide) (fun q => by omega) (fun q => by omega) (fun _ _ => Nat.le_refl _) (fun q => by omega)
            have f3' : FR h (pI h3 79 (14 + NT.E t) (nI a)) := fr_pA f3 (by decide) (by decide) (by show 14 ≤ 14 + NT.E t; omega)
            refine r_iastN dX8_readEdge_37 rfl (by omega) ?_
            refine r_aload_0 dX8_readEdge_38 ?_
            refine r_getR (a := 79) dX8_readEdge_39 fl_X8_28 rfl rfl ?_
            refine r_iload_2 dX8_readEdge_42 ?_
            refine r_ialdN dX8_readEdge_43 rfl (by omega) ?_
            rw [pI_eq]
            refine r_iconst (v := (-1)) dX8_readEdge_44 (by decide) ?_
            refine r_icmp_ne 50 dX8_readEdge_45 (by decide) (fun c_45 => ?_) (fun c_45 => by exact absurd c_45 (nI_ne_m1 (by omega)))
            refine r_aload_0 dX8_readEdge_50 ?_
            refine r_getR (a := 80) dX8_readEdge_51 fl_X8_31 rfl rfl ?_
            refine r_iload_2 dX8_readEdge_54 ?_
            refine r_aload_0 dX8_readEdge_55 ?_
            refine r_aload_0 dX8_readEdge_56 ?_
            refine r_getR (a := 79) dX8_readEdge_57 fl_X8_28 rfl rfl ?_
            refine r_iload_2 dX8_readEdge_60 ?_
            refine r_ialdN dX8_readEdge_61 rfl (by omega) ?_
            rw [pI_eq]
            refine r_cVQ1 mX8_takesJoint dX8_readEdge_62 ml_X8_208 mo_X8_takesJoint rfl (q_tj ok c3' g2 hJ no hj2 (x := nI a) (fun q => hab (nI_jn (by omega) (by omega) q))) (by decide) (fun h4 p4 => ?_)
            obtain ⟨c4, fm4⟩ := p4
            have f4 : FR h h4 := f3'.tr (fr_fm fm4 (fun k q => tkF_r q))
            have c5 := (((c4.wr (y := 80) (i := (14 + NT.E t)) (x := nI b) ti (by decide) (fun q => by omega) (fun q => by omega) (fun _ _ => Nat.le_refl _) (fun q => by omega)).wr (y := 81) (i := (14 + NT.E t)) (x := 1) ti (by decide) (fun q => by omega) (fun q => by omega) (fun _ _ => Nat.le_refl _) (fun q => by omega)).wr (y := 82) (i := (14 + NT.E t)) (x := -2) ti (by decide) (fun q => by omega) (fun q => by omega) (fun _ _ => Nat.le_refl _) (fun q => by omega)).wr (y := 84) (i := (14 + NT.E t)) (x := 0) ti (by decide) (fun q => by omega) (fun q => by omega) (fun _ _ => Nat.le_refl _) (fun q => by omega)
            have f5 : FR h (pI (pI (pI (pI h4 80 (14 + NT.E t) (nI b)) 81 (14 + NT.E t) 1) 82 (14 + NT.E t) (-2)) 84 (14 + NT.E t) 0) := fr_pA (fr_pA (fr_pA (fr_pA f4 (by decide) (by decide) (by show 14 ≤ 14 + NT.E t; omega)) (by decide) (by decide) (by show 14 ≤ 14 + NT.E t; omega)) (by decide) (by decide) (by show 14 ≤ 14 + NT.E t; omega)) (by decide) (by decide) (by show 14 ≤ 14 + NT.E t; omega)
            have r79 : (pI (pI (pI (pI h4 80 (14 + NT.E t) (nI b)) 81 (14 + NT.E t) 1) 82 (14 + NT.E t) (-2)) 84 (14 + NT.E t) 0).1 79 (14 + NT.E t) = nI a := by rw [pI_ne 79 _ (Or.inl (by decide)), pI_ne 79 _ (Or.inl (by decide)), pI_ne 79 _ (Or.inl (by decide)), pI_ne 79 _ (Or.inl (by decide)), (fm4.2.1 79 (by decide) id).1]; exact pI_eq
            have r80 : (pI (pI (pI (pI h4 80 (14 + NT.E t) (nI b)) 81 (14 + NT.E t) 1) 82 (14 + NT.E t) (-2)) 84 (14 + NT.E t) 0).1 80 (14 + NT.E t) = nI b := by rw [pI_ne 80 _ (Or.inl (by decide)), pI_ne 80 _ (Or.inl (by decide)), pI_ne 80 _ (Or.inl (by decide))]; exact pI_eq
            have r81 : (pI (pI (pI (pI h4 80 (14 + NT.E t) (nI b)) 81 (14 + NT.E t) 1) 82 (14 + NT.E t) (-2)) 84 (14 + NT.E t) 0).1 81 (14 + NT.E t) = 1 := by rw [pI_ne 81 _ (Or.inl (by decide)), pI_ne 81 _ (Or.inl (by decide))]; exact pI_eq
            have r82 : (pI (pI (pI (pI h4 80 (14 + NT.E t) (nI b)) 81 (14 + NT.E t) 1) 82 (14 + NT.E t) (-2)) 84 (14 + NT.E t) 0).1 82 (14 + NT.E t) = -2 := by rw [pI_ne 82 _ (Or.inl (by decide))]; exact pI_eq
            have r84 : (pI (pI (pI (pI h4 80 (14 + NT.E t) (nI b)) 81 (14 + NT.E t) 1) 82 (14 + NT.E t) (-2)) 84 (14 + NT.E t) 0).1 84 (14 + NT.E t) = 0 := pI_eq
            refine r_iastN dX8_readEdge_65 rfl (by omega) ?_
            refine r_aload_0 dX8_readEdge_66 ?_
            refine r_getR (a := 80) dX8_readEdge_67 fl_X8_31 rfl rfl ?_
            refine r_iload_2 dX8_readEdge_70 ?_
            refine r_ialdN dX8_readEdge_71 rfl (by omega) ?_
            rw [pI_eq]
            refine r_iconst (v := (-1)) dX8_readEdge_72 (by decide) ?_
            refine r_icmp_ne 78 dX8_readEdge_73 (by decide) (fun c_73 => ?_) (fun c_73 => by exact absurd c_73 (nI_ne_m1 (by omega)))
            refine r_aload_0 dX8_readEdge_78 ?_
            refine r_getR (a := 81) dX8_readEdge_79 fl_X8_34 rfl rfl ?_
            refine r_iload_2 dX8_readEdge_82 ?_
            refine r_iload_1 dX8_readEdge_83 ?_
            refine r_iastN dX8_readEdge_84 rfl (by omega) ?_
            refine r_aload_0 dX8_readEdge_85 ?_
            refine r_getR (a := 82) dX8_readEdge_86 fl_X8_37 rfl rfl ?_
            refine r_iload_2 dX8_readEdge_89 ?_
            refine r_bipush (v := (-2)) dX8_readEdge_90 (by decide) ?_
            refine r_iastN dX8_readEdge_92 rfl (by omega) ?_
            refine r_aload_0 dX8_readEdge_93 ?_
            refine r_getR (a := 84) dX8_readEdge_94 fl_X8_43 rfl rfl ?_
            refine r_iload_2 dX8_readEdge_97 ?_
            refine r_iconst (v := 0) dX8_readEdge_98 (by decide) ?_
            refine r_iastN dX8_readEdge_99 rfl (by omega) ?_
            generalize (pI (pI (pI (pI h4 80 (14 + NT.E t) (nI b)) 81 (14 + NT.E t) 1) 82 (14 + NT.E t) (-2)) 84 (14 + NT.E t) 0) = H5 at c5 f5 r79 r80 r81 r82 r84
            refine r_iload_1 dX8_readEdge_100 ?_
            refine r_iconst (v := 2) dX8_readEdge_101 (by decide) ?_
            refine r_icmp_ne 115 dX8_readEdge_102 (by decide) (fun c_102 => ?_) (fun c_102 => by exact absurd c_102 (by decide))
            refine r_aload_0 dX8_readEdge_115 ?_
            refine r_iconst (v := 1) dX8_readEdge_116 (by decide) ?_
            refine r_bipush (v := 20) dX8_readEdge_117 (by decide) ?_
            refine r_cVQ2 mX8_takesWhole dX8_readEdge_119 ml_X8_201 mo_X8_takesWhole rfl (q_whole ok c5.1 c5.2.1 g3 1 20) (by decide) (fun h6 p6 => ?_)
            have e6 := p6.2 hv
            rw [b2i_f hv]
            refine r_if_ne 127 dX8_readEdge_122 (by decide) (fun c_122 => by exact absurd rfl c_122) (fun c_122 => ?_)
            refine r_iconst (v := 0) dX8_readEdge_125 (by decide) ?_
            refine r_zret dX8_readEdge_126 rfl rfl ?_
            rw [e6]
            exact ⟨(by first | rfl | exact congrArg (fun x => some (Value.int x)) (b2i_f hv).symm), fun q => absurd q hv, fun _ => erH_b, erH_f f5⟩

set_option maxRecDepth 100000 in
set_option maxHeartbeats 4000000 in
theorem q_edge2 {h : PH} {n : Nat} {B : Nat → Nat} (ok : OKB n B) {k : TK} {t : NT} {nm : NMS} (c : RMd h n B k t nm) (g : TGd n B k) (ti : TI t) (no : nmOK t nm) : Con mX8_readEdge 9 [.ref 74, .int 2] h (fun a h' => a = some (.int (b2i ((spPump B n k t nm).1 = 0))) ∧ MOut h h' n B (spPump B n k t nm)) := by
  have hJ := ti.1
  have hE := ti.2.1
  have k1 : h.1 74 26 = nI (NT.E t) := c.2.2.2.1
  have g1 := g.nx.1
  have g2 := g1.nx.1
  have g3 := g2.nx.1
  refine Con.mk (by decide) ?_
  show RT _ _ 0 [some (.ref 74), some (.int 2), none] [] _ _
  by_cases h14 : NT.E t = 14
  · have e0 : spEnds B n k t nm = (4, k, 0, 0) := by unfold spEnds; rw [if_pos h14]
    have e : spPump B n k t nm = (4, k, t, nm) := by unfold spPump; rw [e0]; exact if_neg (show ¬ ((4 : Int32) = 0) by decide)
    rw [e]
    refine r_aload_0 dX8_readEdge_0 ?_
    refine r_getI dX8_readEdge_1 fl_X8_205 rfl ?_
    rw [k1]
    refine r_bipush (v := nI 14) dX8_readEdge_4 (by decide) ?_
    refine r_icmpN_ne 15 dX8_readEdge_6 (by decide) (by omega) (by omega) (fun c_6 => by omega) (fun c_6 => ?_)
    refine r_aload_0 dX8_readEdge_9 ?_
    refine r_iconst (v := 4) dX8_readEdge_10 (by decide) ?_
    refine r_cV1 mX8_errs dX8_readEdge_11 ml_X8_181 mo_X8_errs rfl (q_errs c.2.1 4) (by decide) ?_
    refine r_zret dX8_readEdge_14 rfl rfl ?_
    exact ⟨(by first | rfl | exact congrArg (fun x => some (Value.int x)) (b2i_f (show ¬ ((4 : Int32) = 0) by decide)).symm), fun q => absurd q (show ¬ ((4 : Int32) = 0) by decide), fun _ => erH_b, erH_f FR.rf⟩
  · cases hj1 : jA B (nx B n k) t nm with
    | none =>
      have e0 : spEnds B n k t nm = (jFl B (nx B n k), (nx B n k), 0, 0) := by unfold spEnds; rw [if_neg h14, hj1]
      have e : spPump B n k t nm = (jFl B (nx B n k), (nx B n k), t, nm) := by unfold spPump; rw [e0]; exact if_neg jFl_n
      rw [e]
      refine r_aload_0 dX8_readEdge_0 ?_
      refine r_getI dX8_readEdge_1 fl_X8_205 rfl ?_
      rw [k1]
      refine r_bipush (v := nI 14) dX8_readEdge_4 (by decide) ?_
      refine r_icmpN_ne 15 dX8_readEdge_6 (by decide) (by omega) (by omega) (fun c_6 => ?_) (fun c_6 => by omega)
      refine r_aload_0 dX8_readEdge_15 ?_
      refine r_cWQ0 mX8_goesOn dX8_readEdge_16 ml_X8_188 mo_X8_goesOn rfl (q_goesOn ok c.1 g.1.2.1 c.2.1.2.2.1) (by decide) (fun h2 p2 => ?_)
      obtain ⟨c2, f2⟩ := c.go (k' := (nx B n k)) p2
      have k2 : h2.1 74 26 = nI (NT.E t) := c2.2.2.2.1
      refine r_bipush (v := nI 14) dX8_readEdge_19 (by decide) ?_
      refine r_aload_0 dX8_readEdge_21 ?_
      refine r_getI dX8_readEdge_22 fl_X8_205 rfl ?_
      rw [k2]
      refine r_iadd dX8_readEdge_25 ?_
      rw [nI_ad9]
      refine r_istore_2 dX8_readEdge_26 ?_
      refine r_aload_0 dX8_readEdge_27 ?_
      refine r_getR (a := 79) dX8_readEdge_28 fl_X8_28 rfl rfl ?_
      refine r_iload_2 dX8_readEdge_31 ?_
      refine r_aload_0 dX8_readEdge_32 ?_
      refine r_iconst (v := (-1)) dX8_readEdge_33 (by decide) ?_
      refine r_cV1 mX8_takesJoint dX8_readEdge_34 ml_X8_208 mo_X8_takesJoint rfl (q_tjn ok c2 g1 hJ no (x := -1) (Or.inl hj1)) (by decide) ?_
      refine r_iastN dX8_readEdge_37 rfl (by omega) ?_
      refine r_aload_0 dX8_readEdge_38 ?_
      refine r_getR (a := 79) dX8_readEdge_39 fl_X8_28 rfl rfl ?_
      refine r_iload_2 dX8_readEdge_42 ?_
      refine r_ialdN dX8_readEdge_43 rfl (by omega) ?_
      rw [pI_eq]
      refine r_iconst (v := (-1)) dX8_readEdge_44 (by decide) ?_
      refine r_icmp_ne 50 dX8_readEdge_45 (by decide) (fun c_45 => by exact absurd rfl c_45) (fun c_45 => ?_)
      refine r_iconst (v := 0) dX8_readEdge_48 (by decide) ?_
      refine r_zret dX8_readEdge_49 rfl rfl ?_
      exact ⟨(by first | rfl | exact congrArg (fun x => some (Value.int x)) (b2i_f jFl_n).symm), fun q => absurd q jFl_n, fun _ => ⟨(pI_ne 74 23 (Or.inl (by decide))).trans erH_b.1, (pI_ne 74 24 (Or.inl (by decide))).trans erH_b.2⟩, fr_pA (erH_f f2) (by decide) (by decide) (by show 14 ≤ 14 + NT.E t; omega)⟩
    | some a =>
      have ha := (jA_3 hj1).2
      cases hj2 : jA B (nx B n (nx B n k)) t nm with
      | none =>
        have e0 : spEnds B n k t nm = (jFl B (nx B n (nx B n k)), (nx B n (nx B n k)), 0, 0) := by unfold spEnds; rw [if_neg h14, hj1]; simp only; rw [hj2]
        have e : spPump B n k t nm = (jFl B (nx B n (nx B n k)), (nx B n (nx B n k)), t, nm) := by unfold spPump; rw [e0]; exact if_neg jFl_n
        rw [e]
        refine r_aload_0 dX8_readEdge_0 ?_
        refine r_getI dX8_readEdge_1 fl_X8_205 rfl ?_
        rw [k1]
        refine r_bipush (v := nI 14) dX8_readEdge_4 (by decide) ?_
        refine r_icmpN_ne 15 dX8_readEdge_6 (by decide) (by omega) (by omega) (fun c_6 => ?_) (fun c_6 => by omega)
        refine r_aload_0 dX8_readEdge_15 ?_
        refine r_cWQ0 mX8_goesOn dX8_readEdge_16 ml_X8_188 mo_X8_goesOn rfl (q_goesOn ok c.1 g.1.2.1 c.2.1.2.2.1) (by decide) (fun h2 p2 => ?_)
        obtain ⟨c2, f2⟩ := c.go (k' := (nx B n k)) p2
        have k2 : h2.1 74 26 = nI (NT.E t) := c2.2.2.2.1
        refine r_bipush (v := nI 14) dX8_readEdge_19 (by decide) ?_
        refine r_aload_0 dX8_readEdge_21 ?_
        refine r_getI dX8_readEdge_22 fl_X8_205 rfl ?_
        rw [k2]
        refine r_iadd dX8_readEdge_25 ?_
        rw [nI_ad9]
        refine r_istore_2 dX8_readEdge_26 ?_
        refine r_aload_0 dX8_readEdge_27 ?_
        refine r_getR (a := 79) dX8_readEdge_28 fl_X8_28 rfl rfl ?_
        refine r_iload_2 dX8_readEdge_31 ?_
        refine r_aload_0 dX8_readEdge_32 ?_
        refine r_iconst (v := (-1)) dX8_readEdge_33 (by decide) ?_
        refine r_cVQ1 mX8_takesJoint dX8_readEdge_34 ml_X8_208 mo_X8_takesJoint rfl (q_tj ok c2 g1 hJ no hj1 (x := -1) (nI_ne_m1 (by omega))) (by decide) (fun h3 p3 => ?_)
        obtain ⟨c3, fm3⟩ := p3
        have f3 : FR h h3 := f2.tr (fr_fm fm3 (fun k q => tkF_r q))
        have c3' := c3.wr (y := 79) (i := (14 + NT.E t)) (x := nI a) ti (by decide) (fun q => by omega) (fun q => by omega) (fun _ _ => Nat.le_refl _) (fun q => by omega)
        have f3' : FR h (pI h3 79 (14 + NT.E t) (nI a)) := fr_pA f3 (by decide) (by decide) (by show 14 ≤ 14 + NT.E t; omega)
        refine r_iastN dX8_readEdge_37 rfl (by omega) ?_
        refine r_aload_0 dX8_readEdge_38 ?_
        refine r_getR (a := 79) dX8_readEdge_39 fl_X8_28 rfl rfl ?_
        refine r_iload_2 dX8_readEdge_42 ?_
        refine r_ialdN dX8_readEdge_43 rfl (by omega) ?_
        rw [pI_eq]
        refine r_iconst (v := (-1)) dX8_readEdge_44 (by decide) ?_
        refine r_icmp_ne 50 dX8_readEdge_45 (by decide) (fun c_45 => ?_) (fun c_45 => by exact absurd c_45 (nI_ne_m1 (by omega)))
        refine r_aload_0 dX8_readEdge_50 ?_
        refine r_getR (a := 80) dX8_readEdge_51 fl_X8_31 rfl rfl ?_
        refine r_iload_2 dX8_readEdge_54 ?_
        refine r_aload_0 dX8_readEdge_55 ?_
        refine r_aload_0 dX8_readEdge_56 ?_
        refine r_getR (a := 79) dX8_readEdge_57 fl_X8_28 rfl rfl ?_
        refine r_iload_2 dX8_readEdge_60 ?_
        refine r_ialdN dX8_readEdge_61 rfl (by omega) ?_
        rw [pI_eq]
        refine r_cV1 mX8_takesJoint dX8_readEdge_62 ml_X8_208 mo_X8_takesJoint rfl (q_tjn ok c3' g2 hJ no (x := nI a) (Or.inl hj2)) (by decide) ?_
        refine r_iastN dX8_readEdge_65 rfl (by omega) ?_
        refine r_aload_0 dX8_readEdge_66 ?_
        refine r_getR (a := 80) dX8_readEdge_67 fl_X8_31 rfl rfl ?_
        refine r_iload_2 dX8_readEdge_70 ?_
        refine r_ialdN dX8_readEdge_71 rfl (by omega) ?_
        rw [pI_eq]
        refine r_iconst (v := (-1)) dX8_readEdge_72 (by decide) ?_
        refine r_icmp_ne 78 dX8_readEdge_73 (by decide) (fun c_73 => by exact absurd rfl c_73) (fun c_73 => ?_)
        refine r_iconst (v := 0) dX8_readEdge_76 (by decide) ?_
        refine r_zret dX8_readEdge_77 rfl rfl ?_
        exact ⟨(by first | rfl | exact congrArg (fun x => some (Value.int x)) (b2i_f jFl_n).symm), fun q => absurd q jFl_n, fun _ => ⟨(pI_ne 74 23 (Or.inl (by decide))).trans erH_b.1, (pI_ne 74 24 (Or.inl (by decide))).trans erH_b.2⟩, fr_pA (erH_f f3') (by decide) (by decide) (by show 14 ≤ 14 + NT.E t; omega)⟩
      | some b =>
        have hb := (jA_3 hj2).2
        by_cases hab : b = a
        · have e0 : spEnds B n k t nm = (jFl B (nx B n (nx B n k)), (nx B n (nx B n k)), 0, 0) := by unfold spEnds; rw [if_neg h14, hj1]; simp only; rw [hj2]; simp only; rw [if_pos hab, (jA_3 hj2).1]
          have e : spPump B n k t nm = (jFl B (nx B n (nx B n k)), (nx B n (nx B n k)), t, nm) := by unfold spPump; rw [e0]; exact if_neg jFl_n
          rw [e]
          refine r_aload_0 dX8_readEdge_0 ?_
          refine r_getI dX8_readEdge_1 fl_X8_205 rfl ?_
          rw [k1]
          refine r_bipush (v := nI 14) dX8_readEdge_4 (by decide) ?_
          refine r_icmpN_ne 15 dX8_readEdge_6 (by decide) (by omega) (by omega) (fun c_6 => ?_) (fun c_6 => by omega)
          refine r_aload_0 dX8_readEdge_15 ?_
          refine r_cWQ0 mX8_goesOn dX8_readEdge_16 ml_X8_188 mo_X8_goesOn rfl (q_goesOn ok c.1 g.1.2.1 c.2.1.2.2.1) (by decide) (fun h2 p2 => ?_)
          obtain ⟨c2, f2⟩ := c.go (k' := (nx B n k)) p2
          have k2 : h2.1 74 26 = nI (NT.E t) := c2.2.2.2.1
          refine r_bipush (v := nI 14) dX8_readEdge_19 (by decide) ?_
          refine r_aload_0 dX8_readEdge_21 ?_
          refine r_getI dX8_readEdge_22 fl_X8_205 rfl ?_
          rw [k2]
          refine r_iadd dX8_readEdge_25 ?_
          rw [nI_ad9]
          refine r_istore_2 dX8_readEdge_26 ?_
          refine r_aload_0 dX8_readEdge_27 ?_
          refine r_getR (a := 79) dX8_readEdge_28 fl_X8_28 rfl rfl ?_
          refine r_iload_2 dX8_readEdge_31 ?_
          refine r_aload_0 dX8_readEdge_32 ?_
          refine r_iconst (v := (-1)) dX8_readEdge_33 (by decide) ?_
          refine r_cVQ1 mX8_takesJoint dX8_readEdge_34 ml_X8_208 mo_X8_takesJoint rfl (q_tj ok c2 g1 hJ no hj1 (x := -1) (nI_ne_m1 (by omega))) (by decide) (fun h3 p3 => ?_)
          obtain ⟨c3, fm3⟩ := p3
          have f3 : FR h h3 := f2.tr (fr_fm fm3 (fun k q => tkF_r q))
          have c3' := c3.wr (y := 79) (i := (14 + NT.E t)) (x := nI a) ti (by decide) (fun q => by omega) (fun q => by omega) (fun _ _ => Nat.le_refl _) (fun q => by omega)
          have f3' : FR h (pI h3 79 (14 + NT.E t) (nI a)) := fr_pA f3 (by decide) (by decide) (by show 14 ≤ 14 + NT.E t; omega)
          refine r_iastN dX8_readEdge_37 rfl (by omega) ?_
          refine r_aload_0 dX8_readEdge_38 ?_
          refine r_getR (a := 79) dX8_readEdge_39 fl_X8_28 rfl rfl ?_
          refine r_iload_2 dX8_readEdge_42 ?_
          refine r_ialdN dX8_readEdge_43 rfl (by omega) ?_
          rw [pI_eq]
          refine r_iconst (v := (-1)) dX8_readEdge_44 (by decide) ?_
          refine r_icmp_ne 50 dX8_readEdge_45 (by decide) (fun c_45 => ?_) (fun c_45 => by exact absurd c_45 (nI_ne_m1 (by omega)))
          refine r_aload_0 dX8_readEdge_50 ?_
          refine r_getR (a := 80) dX8_readEdge_51 fl_X8_31 rfl rfl ?_
          refine r_iload_2 dX8_readEdge_54 ?_
          refine r_aload_0 dX8_readEdge_55 ?_
          refine r_aload_0 dX8_readEdge_56 ?_
          refine r_getR (a := 79) dX8_readEdge_57 fl_X8_28 rfl rfl ?_
          refine r_iload_2 dX8_readEdge_60 ?_
          refine r_ialdN dX8_readEdge_61 rfl (by omega) ?_
          rw [pI_eq]
          refine r_cV1 mX8_takesJoint dX8_readEdge_62 ml_X8_208 mo_X8_takesJoint rfl (q_tjn ok c3' g2 hJ no (x := nI a) (Or.inr ⟨b, hj2, by rw [hab]⟩)) (by decide) ?_
          refine r_iastN dX8_readEdge_65 rfl (by omega) ?_
          refine r_aload_0 dX8_readEdge_66 ?_
          refine r_getR (a := 80) dX8_readEdge_67 fl_X8_31 rfl rfl ?_
          refine r_iload_2 dX8_readEdge_70 ?_
          refine r_ialdN dX8_readEdge_71 rfl (by omega) ?_
          rw [pI_eq]
          refine r_iconst (v := (-1)) dX8_readEdge_72 (by decide) ?_
          refine r_icmp_ne 78 dX8_readEdge_73 (by decide) (fun c_73 => by exact absurd rfl c_73) (fun c_73 => ?_)
          refine r_iconst (v := 0) dX8_readEdge_76 (by decide) ?_
          refine r_zret dX8_readEdge_77 rfl rfl ?_
          exact ⟨(by first | rfl | exact congrArg (fun x => some (Value.int x)) (b2i_f jFl_n).symm), fun q => absurd q jFl_n, fun _ => ⟨(pI_ne 74 23 (Or.inl (by decide))).trans erH_b.1, (pI_ne 74 24 (Or.inl (by decide))).trans erH_b.2⟩, fr_pA (erH_f f3') (by decide) (by decide) (by show 14 ≤ 14 + NT.E t; omega)⟩
        · have e0 : spEnds B n k t nm = (0, (nx B n (nx B n (nx B n k))), a, b) := by unfold spEnds; rw [if_neg h14, hj1]; simp only; rw [hj2]; simp only; rw [if_neg hab]
          have e : spPump B n k t nm = spLift B n nm 6 (nx B n (nx B n (nx B n k))) 300 (adE t 2 a b 0) := by unfold spPump; rw [e0]; exact if_pos rfl
          rw [e]
          have tiE : TI (adE t 2 a b 0) := ti.adE (by omega) (Or.inr (Or.inr rfl)) ha hb (fun q => hab q.symm) (fun q => absurd rfl q)
          by_cases hr : (spLift B n nm 6 (nx B n (nx B n (nx B n k))) 300 (adE t 2 a b 0)).1 = 0
          · refine r_aload_0 dX8_readEdge_0 ?_
            refine r_getI dX8_readEdge_1 fl_X8_205 rfl ?_
            rw [k1]
            refine r_bipush (v := nI 14) dX8_readEdge_4 (by decide) ?_
            refine r_icmpN_ne 15 dX8_readEdge_6 (by decide) (by omega) (by omega) (fun c_6 => ?_) (fun c_6 => by omega)
            refine r_aload_0 dX8_readEdge_15 ?_
            refine r_cWQ0 mX8_goesOn dX8_readEdge_16 ml_X8_188 mo_X8_goesOn rfl (q_goesOn ok c.1 g.1.2.1 c.2.1.2.2.1) (by decide) (fun h2 p2 => ?_)
            obtain ⟨c2, f2⟩ := c.go (k' := (nx B n k)) p2
            have k2 : h2.1 74 26 = nI (NT.E t) := c2.2.2.2.1
            refine r_bipush (v := nI 14) dX8_readEdge_19 (by decide) ?_
            refine r_aload_0 dX8_readEdge_21 ?_
            refine r_getI dX8_readEdge_22 fl_X8_205 rfl ?_
            rw [k2]
            refine r_iadd dX8_readEdge_25 ?_
            rw [nI_ad9]
            refine r_istore_2 dX8_readEdge_26 ?_
            refine r_aload_0 dX8_readEdge_27 ?_
            refine r_getR (a := 79) dX8_readEdge_28 fl_X8_28 rfl rfl ?_
            refine r_iload_2 dX8_readEdge_31 ?_
            refine r_aload_0 dX8_readEdge_32 ?_
            refine r_iconst (v := (-1)) dX8_readEdge_33 (by decide) ?_
            refine r_cVQ1 mX8_takesJoint dX8_readEdge_34 ml_X8_208 mo_X8_takesJoint rfl (q_tj ok c2 g1 hJ no hj1 (x := -1) (nI_ne_m1 (by omega))) (by decide) (fun h3 p3 => ?_)
            obtain ⟨c3, fm3⟩ := p3
            have f3 : FR h h3 := f2.tr (fr_fm fm3 (fun k q => tkF_r q))
            have c3' := c3.wr (y := 79) (i := (14 + NT.E t)) (x := nI a) ti (by decide) (fun q => by omega) (fun q => by omega) (fun _ _ => Nat.le_refl _) (fun q => by omega)
            have f3' : FR h (pI h3 79 (14 + NT.E t) (nI a)) := fr_pA f3 (by decide) (by decide) (by show 14 ≤ 14 + NT.E t; omega)
            refine r_iastN dX8_readEdge_37 rfl (by omega) ?_
            refine r_aload_0 dX8_readEdge_38 ?_
            refine r_getR (a := 79) dX8_readEdge_39 fl_X8_28 rfl rfl ?_
            refine r_iload_2 dX8_readEdge_42 ?_
            refine r_ialdN dX8_readEdge_43 rfl (by omega) ?_
            rw [pI_eq]
            refine r_iconst (v := (-1)) dX8_readEdge_44 (by decide) ?_
            refine r_icmp_ne 50 dX8_readEdge_45 (by decide) (fun c_45 => ?_) (fun c_45 => by exact absurd c_45 (nI_ne_m1 (by omega)))
            refine r_aload_0 dX8_readEdge_50 ?_
            refine r_getR (a := 80) dX8_readEdge_51 fl_X8_31 rfl rfl ?_
            refine r_iload_2 dX8_readEdge_54 ?_
            refine r_aload_0 dX8_readEdge_55 ?_
            refine r_aload_0 dX8_readEdge_56 ?_
            refine r_getR (a := 79) dX8_readEdge_57 fl_X8_28 rfl rfl ?_
            refine r_iload_2 dX8_readEdge_60 ?_
            refine r_ialdN dX8_readEdge_61 rfl (by omega) ?_
            rw [pI_eq]
            refine r_cVQ1 mX8_takesJoint dX8_readEdge_62 ml_X8_208 mo_X8_takesJoint rfl (q_tj ok c3' g2 hJ no hj2 (x := nI a) (fun q => hab (nI_jn (by omega) (by omega) q))) (by decide) (fun h4 p4 => ?_)
            obtain ⟨c4, fm4⟩ := p4
            have f4 : FR h h4 := f3'.tr (fr_fm fm4 (fun k q => tkF_r q))
            have c5 := (((c4.wr (y := 80) (i := (14 + NT.E t)) (x := nI b) ti (by decide) (fun q => by omega) (fun q => by omega) (fun _ _ => Nat.le_refl _) (fun q => by omega)).wr (y := 81) (i := (14 + NT.E t)) (x := 2) ti (by decide) (fun q => by omega) (fun q => by omega) (fun _ _ => Nat.le_refl _) (fun q => by omega)).wr (y := 82) (i := (14 + NT.E t)) (x := -2) ti (by decide) (fun q => by omega) (fun q => by omega) (fun _ _ => Nat.le_refl _) (fun q => by omega)).wr (y := 84) (i := (14 + NT.E t)) (x := 0) ti (by decide) (fun q => by omega) (fun q => by omega) (fun _ _ => Nat.le_refl _) (fun q => by omega)
            have f5 : FR h (pI (pI (pI (pI h4 80 (14 + NT.E t) (nI b)) 81 (14 + NT.E t) 2) 82 (14 + NT.E t) (-2)) 84 (14 + NT.E t) 0) := fr_pA (fr_pA (fr_pA (fr_pA f4 (by decide) (by decide) (by show 14 ≤ 14 + NT.E t; omega)) (by decide) (by decide) (by show 14 ≤ 14 + NT.E t; omega)) (by decide) (by decide) (by show 14 ≤ 14 + NT.E t; omega)) (by decide) (by decide) (by show 14 ≤ 14 + NT.E t; omega)
            have r79 : (pI (pI (pI (pI h4 80 (14 + NT.E t) (nI b)) 81 (14 + NT.E t) 2) 82 (14 + NT.E t) (-2)) 84 (14 + NT.E t) 0).1 79 (14 + NT.E t) = nI a := by rw [pI_ne 79 _ (Or.inl (by decide)), pI_ne 79 _ (Or.inl (by decide)), pI_ne 79 _ (Or.inl (by decide)), pI_ne 79 _ (Or.inl (by decide)), (fm4.2.1 79 (by decide) id).1]; exact pI_eq
            have r80 : (pI (pI (pI (pI h4 80 (14 + NT.E t) (nI b)) 81 (14 + NT.E t) 2) 82 (14 + NT.E t) (-2)) 84 (14 + NT.E t) 0).1 80 (14 + NT.E t) = nI b := by rw [pI_ne 80 _ (Or.inl (by decide)), pI_ne 80 _ (Or.inl (by decide)), pI_ne 80 _ (Or.inl (by decide))]; exact pI_eq
            have r81 : (pI (pI (pI (pI h4 80 (14 + NT.E t) (nI b)) 81 (14 + NT.E t) 2) 82 (14 + NT.E t) (-2)) 84 (14 + NT.E t) 0).1 81 (14 + NT.E t) = 2 := by rw [pI_ne 81 _ (Or.inl (by decide)), pI_ne 81 _ (Or.inl (by decide))]; exact pI_eq
            have r82 : (pI (pI (pI (pI h4 80 (14 + NT.E t) (nI b)) 81 (14 + NT.E t) 2) 82 (14 + NT.E t) (-2)) 84 (14 + NT.E t) 0).1 82 (14 + NT.E t) = -2 := by rw [pI_ne 82 _ (Or.inl (by decide))]; exact pI_eq
            have r84 : (pI (pI (pI (pI h4 80 (14 + NT.E t) (nI b)) 81 (14 + NT.E t) 2) 82 (14 + NT.E t) (-2)) 84 (14 + NT.E t) 0).1 84 (14 + NT.E t) = 0 := pI_eq
            refine r_iastN dX8_readEdge_65 rfl (by omega) ?_
            refine r_aload_0 dX8_readEdge_66 ?_
            refine r_getR (a := 80) dX8_readEdge_67 fl_X8_31 rfl rfl ?_
            refine r_iload_2 dX8_readEdge_70 ?_
            refine r_ialdN dX8_readEdge_71 rfl (by omega) ?_
            rw [pI_eq]
            refine r_iconst (v := (-1)) dX8_readEdge_72 (by decide) ?_
            refine r_icmp_ne 78 dX8_readEdge_73 (by decide) (fun c_73 => ?_) (fun c_73 => by exact absurd c_73 (nI_ne_m1 (by omega)))
            refine r_aload_0 dX8_readEdge_78 ?_
            refine r_getR (a := 81) dX8_readEdge_79 fl_X8_34 rfl rfl ?_
            refine r_iload_2 dX8_readEdge_82 ?_
            refine r_iload_1 dX8_readEdge_83 ?_
            refine r_iastN dX8_readEdge_84 rfl (by omega) ?_
            refine r_aload_0 dX8_readEdge_85 ?_
            refine r_getR (a := 82) dX8_readEdge_86 fl_X8_37 rfl rfl ?_
            refine r_iload_2 dX8_readEdge_89 ?_
            refine r_bipush (v := (-2)) dX8_readEdge_90 (by decide) ?_
            refine r_iastN dX8_readEdge_92 rfl (by omega) ?_
            refine r_aload_0 dX8_readEdge_93 ?_
            refine r_getR (a := 84) dX8_readEdge_94 fl_X8_43 rfl rfl ?_
            refine r_iload_2 dX8_readEdge_97 ?_
            refine r_iconst (v := 0) dX8_readEdge_98 (by decide) ?_
            refine r_iastN dX8_readEdge_99 rfl (by omega) ?_
            generalize (pI (pI (pI (pI h4 80 (14 + NT.E t) (nI b)) 81 (14 + NT.E t) 2) 82 (14 + NT.E t) (-2)) 84 (14 + NT.E t) 0) = H5 at c5 f5 r79 r80 r81 r82 r84
            refine r_iload_1 dX8_readEdge_100 ?_
            refine r_iconst (v := 2) dX8_readEdge_101 (by decide) ?_
            refine r_icmp_ne 115 dX8_readEdge_102 (by decide) (fun c_102 => by exact absurd rfl c_102) (fun c_102 => ?_)
            refine r_aload_0 dX8_readEdge_105 ?_
            refine r_iload_2 dX8_readEdge_106 ?_
            refine r_cVQ1 mX8_readLifts dX8_readEdge_107 ml_X8_211 mo_X8_readLifts rfl (q_lifts ok (e0 := NT.E t) (by omega) ⟨c5.1, c5.2.1, c5.2.2.addE r79 r80 r81 (by rw [if_pos rfl]; exact r82) r84⟩ g3 tiE rfl (by show fupd (NT.lc t) (NT.E t) 0 (NT.E t) = 0; exact fupd_s)) (by decide) (fun h6 p6 => ?_)
            obtain ⟨mb6, mk6, rd6⟩ := p6.1 hr
            have k6 : h6.1 74 26 = nI (NT.E t) := rd6.2.1
            rw [b2i_t hr]
            refine r_if_ne 137 dX8_readEdge_110 (by decide) (fun c_110 => ?_) (fun c_110 => by exact absurd c_110 (by decide))
            refine r_aload_0 dX8_readEdge_137 ?_
            refine r_dupr dX8_readEdge_138 ?_
            refine r_getI dX8_readEdge_139 fl_X8_205 rfl ?_
            rw [k6]
            refine r_iconst (v := nI 1) dX8_readEdge_142 (by decide) ?_
            refine r_iadd dX8_readEdge_143 ?_
            rw [nI_ad9]
            refine r_putI dX8_readEdge_144 fl_X8_205 rfl rfl rfl ?_
            refine r_iconst (v := 1) dX8_readEdge_147 (by decide) ?_
            refine r_zret dX8_readEdge_148 rfl rfl ?_
            have q := RMd.fld mb6 mk6 (j := 26) (by decide) (nI (NT.E t + 1))
            exact ⟨(by first | rfl | exact congrArg (fun x => some (Value.int x)) (b2i_t hr).symm), fun _ => ⟨q.1, q.2, by rw [spLift_E]; exact rd6.cnt (NT.E t + 1)⟩, fun z => absurd hr z, fr_pF (f5.tr p6.2.2) (by decide) (by decide)⟩
          · refine r_aload_0 dX8_readEdge_0 ?_
            refine r_getI dX8_readEdge_1 fl_X8_205 rfl ?_
            rw [k1]
            refine r_bipush (v := nI 14) dX8_readEdge_4 (by decide) ?_
            refine r_icmpN_ne 15 dX8_readEdge_6 (by decide) (by omega) (by omega) (fun c_6 => ?_) (fun c_6 => by omega)
            refine r_aload_0 dX8_readEdge_15 ?_
            refine r_cWQ0 mX8_goesOn dX8_readEdge_16 ml_X8_188 mo_X8_goesOn rfl (q_goesOn ok c.1 g.1.2.1 c.2.1.2.2.1) (by decide) (fun h2 p2 => ?_)
            obtain ⟨c2, f2⟩ := c.go (k' := (nx B n k)) p2
            have k2 : h2.1 74 26 = nI (NT.E t) := c2.2.2.2.1
            refine r_bipush (v := nI 14) dX8_readEdge_19 (by decide) ?_
            refine r_aload_0 dX8_readEdge_21 ?_
            refine r_getI dX8_readEdge_22 fl_X8_205 rfl ?_
            rw [k2]
            refine r_iadd dX8_readEdge_25 ?_
            rw [nI_ad9]
            refine r_istore_2 dX8_readEdge_26 ?_
            refine r_aload_0 dX8_readEdge_27 ?_
            refine r_getR (a := 79) dX8_readEdge_28 fl_X8_28 rfl rfl ?_
            refine r_iload_2 dX8_readEdge_31 ?_
            refine r_aload_0 dX8_readEdge_32 ?_
            refine r_iconst (v := (-1)) dX8_readEdge_33 (by decide) ?_
            refine r_cVQ1 mX8_takesJoint dX8_readEdge_34 ml_X8_208 mo_X8_takesJoint rfl (q_tj ok c2 g1 hJ no hj1 (x := -1) (nI_ne_m1 (by omega))) (by decide) (fun h3 p3 => ?_)
            obtain ⟨c3, fm3⟩ := p3
            have f3 : FR h h3 := f2.tr (fr_fm fm3 (fun k q => tkF_r q))
            have c3' := c3.wr (y := 79) (i := (14 + NT.E t)) (x := nI a) ti (by decide) (fun q => by omega) (fun q => by omega) (fun _ _ => Nat.le_refl _) (fun q => by omega)
            have f3' : FR h (pI h3 79 (14 + NT.E t) (nI a)) := fr_pA f3 (by decide) (by decide) (by show 14 ≤ 14 + NT.E t; omega)
            refine r_iastN dX8_readEdge_37 rfl (by omega) ?_
            refine r_aload_0 dX8_readEdge_38 ?_
            refine r_getR (a := 79) dX8_readEdge_39 fl_X8_28 rfl rfl ?_
            refine r_iload_2 dX8_readEdge_42 ?_
            refine r_ialdN dX8_readEdge_43 rfl (by omega) ?_
            rw [pI_eq]
            refine r_iconst (v := (-1)) dX8_readEdge_44 (by decide) ?_
            refine r_icmp_ne 50 dX8_readEdge_45 (by decide) (fun c_45 => ?_) (fun c_45 => by exact absurd c_45 (nI_ne_m1 (by omega)))
            refine r_aload_0 dX8_readEdge_50 ?_
            refine r_getR (a := 80) dX8_readEdge_51 fl_X8_31 rfl rfl ?_
            refine r_iload_2 dX8_readEdge_54 ?_
            refine r_aload_0 dX8_readEdge_55 ?_
            refine r_aload_0 dX8_readEdge_56 ?_
            refine r_getR (a := 79) dX8_readEdge_57 fl_X8_28 rfl rfl ?_
            refine r_iload_2 dX8_readEdge_60 ?_
            refine r_ialdN dX8_readEdge_61 rfl (by omega) ?_
            rw [pI_eq]
            refine r_cVQ1 mX8_takesJoint dX8_readEdge_62 ml_X8_208 mo_X8_takesJoint rfl (q_tj ok c3' g2 hJ no hj2 (x := nI a) (fun q => hab (nI_jn (by omega) (by omega) q))) (by decide) (fun h4 p4 => ?_)
            obtain ⟨c4, fm4⟩ := p4
            have f4 : FR h h4 := f3'.tr (fr_fm fm4 (fun k q => tkF_r q))
            have c5 := (((c4.wr (y := 80) (i := (14 + NT.E t)) (x := nI b) ti (by decide) (fun q => by omega) (fun q => by omega) (fun _ _ => Nat.le_refl _) (fun q => by omega)).wr (y := 81) (i := (14 + NT.E t)) (x := 2) ti (by decide) (fun q => by omega) (fun q => by omega) (fun _ _ => Nat.le_refl _) (fun q => by omega)).wr (y := 82) (i := (14 + NT.E t)) (x := -2) ti (by decide) (fun q => by omega) (fun q => by omega) (fun _ _ => Nat.le_refl _) (fun q => by omega)).wr (y := 84) (i := (14 + NT.E t)) (x := 0) ti (by decide) (fun q => by omega) (fun q => by omega) (fun _ _ => Nat.le_refl _) (fun q => by omega)
            have f5 : FR h (pI (pI (pI (pI h4 80 (14 + NT.E t) (nI b)) 81 (14 + NT.E t) 2) 82 (14 + NT.E t) (-2)) 84 (14 + NT.E t) 0) := fr_pA (fr_pA (fr_pA (fr_pA f4 (by decide) (by decide) (by show 14 ≤ 14 + NT.E t; omega)) (by decide) (by decide) (by show 14 ≤ 14 + NT.E t; omega)) (by decide) (by decide) (by show 14 ≤ 14 + NT.E t; omega)) (by decide) (by decide) (by show 14 ≤ 14 + NT.E t; omega)
            have r79 : (pI (pI (pI (pI h4 80 (14 + NT.E t) (nI b)) 81 (14 + NT.E t) 2) 82 (14 + NT.E t) (-2)) 84 (14 + NT.E t) 0).1 79 (14 + NT.E t) = nI a := by rw [pI_ne 79 _ (Or.inl (by decide)), pI_ne 79 _ (Or.inl (by decide)), pI_ne 79 _ (Or.inl (by decide)), pI_ne 79 _ (Or.inl (by decide)), (fm4.2.1 79 (by decide) id).1]; exact pI_eq
            have r80 : (pI (pI (pI (pI h4 80 (14 + NT.E t) (nI b)) 81 (14 + NT.E t) 2) 82 (14 + NT.E t) (-2)) 84 (14 + NT.E t) 0).1 80 (14 + NT.E t) = nI b := by rw [pI_ne 80 _ (Or.inl (by decide)), pI_ne 80 _ (Or.inl (by decide)), pI_ne 80 _ (Or.inl (by decide))]; exact pI_eq
            have r81 : (pI (pI (pI (pI h4 80 (14 + NT.E t) (nI b)) 81 (14 + NT.E t) 2) 82 (14 + NT.E t) (-2)) 84 (14 + NT.E t) 0).1 81 (14 + NT.E t) = 2 := by rw [pI_ne 81 _ (Or.inl (by decide)), pI_ne 81 _ (Or.inl (by decide))]; exact pI_eq
            have r82 : (pI (pI (pI (pI h4 80 (14 + NT.E t) (nI b)) 81 (14 + NT.E t) 2) 82 (14 + NT.E t) (-2)) 84 (14 + NT.E t) 0).1 82 (14 + NT.E t) = -2 := by rw [pI_ne 82 _ (Or.inl (by decide))]; exact pI_eq
            have r84 : (pI (pI (pI (pI h4 80 (14 + NT.E t) (nI b)) 81 (14 + NT.E t) 2) 82 (14 + NT.E t) (-2)) 84 (14 + NT.E t) 0).1 84 (14 + NT.E t) = 0 := pI_eq
            refine r_iastN dX8_readEdge_65 rfl (by omega) ?_
            refine r_aload_0 dX8_readEdge_66 ?_
            refine r_getR (a := 80) dX8_readEdge_67 fl_X8_31 rfl rfl ?_
            refine r_iload_2 dX8_readEdge_70 ?_
            refine r_ialdN dX8_readEdge_71 rfl (by omega) ?_
            rw [pI_eq]
            refine r_iconst (v := (-1)) dX8_readEdge_72 (by decide) ?_
            refine r_icmp_ne 78 dX8_readEdge_73 (by decide) (fun c_73 => ?_) (fun c_73 => by exact absurd c_73 (nI_ne_m1 (by omega)))
            refine r_aload_0 dX8_readEdge_78 ?_
            refine r_getR (a := 81) dX8_readEdge_79 fl_X8_34 rfl rfl ?_
            refine r_iload_2 dX8_readEdge_82 ?_
            refine r_iload_1 dX8_readEdge_83 ?_
            refine r_iastN dX8_readEdge_84 rfl (by omega) ?_
            refine r_aload_0 dX8_readEdge_85 ?_
            refine r_getR (a := 82) dX8_readEdge_86 fl_X8_37 rfl rfl ?_
            refine r_iload_2 dX8_readEdge_89 ?_
            refine r_bipush (v := (-2)) dX8_readEdge_90 (by decide) ?_
            refine r_iastN dX8_readEdge_92 rfl (by omega) ?_
            refine r_aload_0 dX8_readEdge_93 ?_
            refine r_getR (a := 84) dX8_readEdge_94 fl_X8_43 rfl rfl ?_
            refine r_iload_2 dX8_readEdge_97 ?_
            refine r_iconst (v := 0) dX8_readEdge_98 (by decide) ?_
            refine r_iastN dX8_readEdge_99 rfl (by omega) ?_
            generalize (pI (pI (pI (pI h4 80 (14 + NT.E t) (nI b)) 81 (14 + NT.E t) 2) 82 (14 + NT.E t) (-2)) 84 (14 + NT.E t) 0) = H5 at c5 f5 r79 r80 r81 r82 r84
            refine r_iload_1 dX8_readEdge_100 ?_
            refine r_iconst (v := 2) dX8_readEdge_101 (by decide) ?_
            refine r_icmp_ne 115 dX8_readEdge_102 (by decide) (fun c_102 => by exact absurd rfl c_102) (fun c_102 => ?_)
            refine r_aload_0 dX8_readEdge_105 ?_
            refine r_iload_2 dX8_readEdge_106 ?_
            refine r_cVQ1 mX8_readLifts dX8_readEdge_107 ml_X8_211 mo_X8_readLifts rfl (q_lifts ok (e0 := NT.E t) (by omega) ⟨c5.1, c5.2.1, c5.2.2.addE r79 r80 r81 (by rw [if_pos rfl]; exact r82) r84⟩ g3 tiE rfl (by show fupd (NT.lc t) (NT.E t) 0 (NT.E t) = 0; exact fupd_s)) (by decide) (fun h6 p6 => ?_)
            rw [b2i_f hr]
            refine r_if_ne 137 dX8_readEdge_110 (by decide) (fun c_110 => by exact absurd rfl c_110) (fun c_110 => ?_)
            refine r_iconst (v := 0) dX8_readEdge_113 (by decide) ?_
            refine r_zret dX8_readEdge_114 rfl rfl ?_
            exact ⟨(by first | rfl | exact congrArg (fun x => some (Value.int x)) (b2i_f hr).symm), fun q => absurd q hr, fun q => p6.2.1 q, f5.tr p6.2.2⟩

set_option maxRecDepth 100000 in
set_option maxHeartbeats 4000000 in
theorem q_line {h : PH} {n : Nat} {B : Nat → Nat} (ok : OKB n B) {k : TK} {t : NT} {nm : NMS} (c : RMd h n B k t nm) (g : TGd n B k) (ti : TI t) (no : nmOK t nm) (hJ0 : 0 < NT.J t) : Con mX8_readLine 10 [.ref 74] h (fun a h' => a = some (.int (b2i ((spLine B n k t nm).1 = 0))) ∧ MOut h h' n B (spLine B n k t nm)) := by
  refine Con.mk (by decide) ?_
  show RT _ _ 0 [some (.ref 74)] [] _ _
  by_cases w1 : k.1 = 1 ∧ wd B k = kwL 1
  · have e : spLine B n k t nm = spJoint B n k t nm := by unfold spLine; rw [if_pos w1]
    rw [e]
    refine r_aload_0 dX8_readLine_0 ?_
    refine r_ldcS (i := 1) (by decide) rfl dX8_readLine_1 ?_
    refine r_cV1 mX8_isWord dX8_readLine_3 ml_X8_160 mo_X8_isWord rfl (q_isWord ok c.1 c.2.1 g.1 (i := 1) (by decide)) (by decide) ?_
    rw [b2i_t w1]
    refine r_if_eq 14 dX8_readLine_6 (by decide) (fun c_6 => by exact absurd c_6 (by decide)) (fun c_6 => ?_)
    refine r_aload_0 dX8_readLine_9 ?_
    refine r_cVQ0 mX8_readJoint dX8_readLine_10 ml_X8_214 mo_X8_readJoint rfl (q_joint ok c g ti no hJ0) (by decide) (fun h2 p2 => ?_)
    refine r_zret dX8_readLine_13 rfl (by unfold b2i; split <;> rfl) ?_
    exact ⟨rfl, p2⟩
  · by_cases w3 : k.1 = 1 ∧ wd B k = kwL 3
    · have e : spLine B n k t nm = spRes B n 0 k t nm := by unfold spLine; rw [if_neg w1, if_pos w3]
      rw [e]
      refine r_aload_0 dX8_readLine_0 ?_
      refine r_ldcS (i := 1) (by decide) rfl dX8_readLine_1 ?_
      refine r_cV1 mX8_isWord dX8_readLine_3 ml_X8_160 mo_X8_isWord rfl (q_isWord ok c.1 c.2.1 g.1 (i := 1) (by decide)) (by decide) ?_
      rw [b2i_f w1]
      refine r_if_eq 14 dX8_readLine_6 (by decide) (fun c_6 => ?_) (fun c_6 => by exact absurd rfl c_6)
      refine r_aload_0 dX8_readLine_14 ?_
      refine r_ldcS (i := 3) (by decide) rfl dX8_readLine_15 ?_
      refine r_cV1 mX8_isWord dX8_readLine_17 ml_X8_160 mo_X8_isWord rfl (q_isWord ok c.1 c.2.1 g.1 (i := 3) (by decide)) (by decide) ?_
      rw [b2i_t w3]
      refine r_if_eq 31 dX8_readLine_20 (by decide) (fun c_20 => by exact absurd c_20 (by decide)) (fun c_20 => ?_)
      refine r_aload_0 dX8_readLine_23 ?_
      refine r_iconst (v := 0) dX8_readLine_24 (by decide) ?_
      refine r_cVQ1 mX8_readEdge dX8_readLine_25 ml_X8_217 mo_X8_readEdge rfl (q_edge0 ok c g ti no) (by decide) (fun h2 p2 => ?_)
      refine r_goto 70 dX8_readLine_28 (by decide) ?_
      refine r_zret dX8_readLine_70 rfl (by unfold b2i; split <;> rfl) ?_
      exact ⟨rfl, p2⟩
    · by_cases w4 : k.1 = 1 ∧ wd B k = kwL 4
      · have e : spLine B n k t nm = spRes B n 1 k t nm := by unfold spLine; rw [if_neg w1, if_neg w3, if_pos w4]
        rw [e]
        refine r_aload_0 dX8_readLine_0 ?_
        refine r_ldcS (i := 1) (by decide) rfl dX8_readLine_1 ?_
        refine r_cV1 mX8_isWord dX8_readLine_3 ml_X8_160 mo_X8_isWord rfl (q_isWord ok c.1 c.2.1 g.1 (i := 1) (by decide)) (by decide) ?_
        rw [b2i_f w1]
        refine r_if_eq 14 dX8_readLine_6 (by decide) (fun c_6 => ?_) (fun c_6 => by exact absurd rfl c_6)
        refine r_aload_0 dX8_readLine_14 ?_
        refine r_ldcS (i := 3) (by decide) rfl dX8_readLine_15 ?_
        refine r_cV1 mX8_isWord dX8_readLine_17 ml_X8_160 mo_X8_isWord rfl (q_isWord ok c.1 c.2.1 g.1 (i := 3) (by decide)) (by decide) ?_
        rw [b2i_f w3]
        refine r_if_eq 31 dX8_readLine_20 (by decide) (fun c_20 => ?_) (fun c_20 => by exact absurd rfl c_20)
        refine r_aload_0 dX8_readLine_31 ?_
        refine r_ldcS (i := 4) (by decide) rfl dX8_readLine_32 ?_
        refine r_cV1 mX8_isWord dX8_readLine_34 ml_X8_160 mo_X8_isWord rfl (q_isWord ok c.1 c.2.1 g.1 (i := 4) (by decide)) (by decide) ?_
        rw [b2i_t w4]
        refine r_if_eq 48 dX8_readLine_37 (by decide) (fun c_37 => by exact absurd c_37 (by decide)) (fun c_37 => ?_)
        refine r_aload_0 dX8_readLine_40 ?_
        refine r_iconst (v := 1) dX8_readLine_41 (by decide) ?_
        refine r_cVQ1 mX8_readEdge dX8_readLine_42 ml_X8_217 mo_X8_readEdge rfl (q_edge1 ok c g ti no) (by decide) (fun h2 p2 => ?_)
        refine r_goto 70 dX8_readLine_45 (by decide) ?_
        refine r_zret dX8_readLine_70 rfl (by unfold b2i; split <;> rfl) ?_
        exact ⟨rfl, p2⟩
      · by_cases w5 : k.1 = 1 ∧ wd B k = kwL 5
        · have e : spLine B n k t nm = spPump B n k t nm := by unfold spLine; rw [if_neg w1, if_neg w3, if_neg w4, if_pos w5]
          rw [e]
          refine r_aload_0 dX8_readLine_0 ?_
          refine r_ldcS (i := 1) (by decide) rfl dX8_readLine_1 ?_
          refine r_cV1 mX8_isWord dX8_readLine_3 ml_X8_160 mo_X8_isWord rfl (q_isWord ok c.1 c.2.1 g.1 (i := 1) (by decide)) (by decide) ?_
          rw [b2i_f w1]
          refine r_if_eq 14 dX8_readLine_6 (by decide) (fun c_6 => ?_) (fun c_6 => by exact absurd rfl c_6)
          refine r_aload_0 dX8_readLine_14 ?_
          refine r_ldcS (i := 3) (by decide) rfl dX8_readLine_15 ?_
          refine r_cV1 mX8_isWord dX8_readLine_17 ml_X8_160 mo_X8_isWord rfl (q_isWord ok c.1 c.2.1 g.1 (i := 3) (by decide)) (by decide) ?_
          rw [b2i_f w3]
          refine r_if_eq 31 dX8_readLine_20 (by decide) (fun c_20 => ?_) (fun c_20 => by exact absurd rfl c_20)
          refine r_aload_0 dX8_readLine_31 ?_
          refine r_ldcS (i := 4) (by decide) rfl dX8_readLine_32 ?_
          refine r_cV1 mX8_isWord dX8_readLine_34 ml_X8_160 mo_X8_isWord rfl (q_isWord ok c.1 c.2.1 g.1 (i := 4) (by decide)) (by decide) ?_
          rw [b2i_f w4]
          refine r_if_eq 48 dX8_readLine_37 (by decide) (fun c_37 => ?_) (fun c_37 => by exact absurd rfl c_37)
          refine r_aload_0 dX8_readLine_48 ?_
          refine r_ldcS (i := 5) (by decide) rfl dX8_readLine_49 ?_
          refine r_cV1 mX8_isWord dX8_readLine_51 ml_X8_160 mo_X8_isWord rfl (q_isWord ok c.1 c.2.1 g.1 (i := 5) (by decide)) (by decide) ?_
          rw [b2i_t w5]
          refine r_if_eq 65 dX8_readLine_54 (by decide) (fun c_54 => by exact absurd c_54 (by decide)) (fun c_54 => ?_)
          refine r_aload_0 dX8_readLine_57 ?_
          refine r_iconst (v := 2) dX8_readLine_58 (by decide) ?_
          refine r_cVQ1 mX8_readEdge dX8_readLine_59 ml_X8_217 mo_X8_readEdge rfl (q_edge2 ok c g ti no) (by decide) (fun h2 p2 => ?_)
          refine r_goto 70 dX8_readLine_62 (by decide) ?_
          refine r_zret dX8_readLine_70 rfl (by unfold b2i; split <;> rfl) ?_
          exact ⟨rfl, p2⟩
        · have e : spLine B n k t nm = (1, k, t, nm) := by unfold spLine; rw [if_neg w1, if_neg w3, if_neg w4, if_neg w5]
          rw [e]
          refine r_aload_0 dX8_readLine_0 ?_
          refine r_ldcS (i := 1) (by decide) rfl dX8_readLine_1 ?_
          refine r_cV1 mX8_isWord dX8_readLine_3 ml_X8_160 mo_X8_isWord rfl (q_isWord ok c.1 c.2.1 g.1 (i := 1) (by decide)) (by decide) ?_
          rw [b2i_f w1]
          refine r_if_eq 14 dX8_readLine_6 (by decide) (fun c_6 => ?_) (fun c_6 => by exact absurd rfl c_6)
          refine r_aload_0 dX8_readLine_14 ?_
          refine r_ldcS (i := 3) (by decide) rfl dX8_readLine_15 ?_
          refine r_cV1 mX8_isWord dX8_readLine_17 ml_X8_160 mo_X8_isWord rfl (q_isWord ok c.1 c.2.1 g.1 (i := 3) (by decide)) (by decide) ?_
          rw [b2i_f w3]
          refine r_if_eq 31 dX8_readLine_20 (by decide) (fun c_20 => ?_) (fun c_20 => by exact absurd rfl c_20)
          refine r_aload_0 dX8_readLine_31 ?_
          refine r_ldcS (i := 4) (by decide) rfl dX8_readLine_32 ?_
          refine r_cV1 mX8_isWord dX8_readLine_34 ml_X8_160 mo_X8_isWord rfl (q_isWord ok c.1 c.2.1 g.1 (i := 4) (by decide)) (by decide) ?_
          rw [b2i_f w4]
          refine r_if_eq 48 dX8_readLine_37 (by decide) (fun c_37 => ?_) (fun c_37 => by exact absurd rfl c_37)
          refine r_aload_0 dX8_readLine_48 ?_
          refine r_ldcS (i := 5) (by decide) rfl dX8_readLine_49 ?_
          refine r_cV1 mX8_isWord dX8_readLine_51 ml_X8_160 mo_X8_isWord rfl (q_isWord ok c.1 c.2.1 g.1 (i := 5) (by decide)) (by decide) ?_
          rw [b2i_f w5]
          refine r_if_eq 65 dX8_readLine_54 (by decide) (fun c_54 => ?_) (fun c_54 => by exact absurd rfl c_54)
          refine r_aload_0 dX8_readLine_65 ?_
          refine r_iconst (v := 1) dX8_readLine_66 (by decide) ?_
          refine r_cV1 mX8_errs dX8_readLine_67 ml_X8_181 mo_X8_errs rfl (q_errs c.2.1 1) (by decide) ?_
          refine r_zret dX8_readLine_70 rfl rfl ?_
          exact ⟨(by first | rfl | exact congrArg (fun x => some (Value.int x)) (b2i_f (show ¬ ((1 : Int32) = 0) by decide)).symm), fun q => absurd q (show ¬ ((1 : Int32) = 0) by decide), fun _ => erH_b, erH_f FR.rf⟩

