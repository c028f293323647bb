/-! ===== the reference reads: lines ===== -/
theorem RMd.wr {h : PH} {n : Nat} {B : Nat → Nat} {k : TK} {t : NT} {nm : NMS} (c : RMd h n B k t nm) (ti : TI t) {y i : Nat} {x : Int32} (hy : 76 ≤ y) (h76 : y = 76 ∨ y = 77 → 9 + NT.J t ≤ i) (h78 : y = 78 → 6 * (9 + NT.J t) ≤ i) (h79 : 79 ≤ y → y ≠ 83 → 14 + NT.E t ≤ i) (h83 : y = 83 → 6 * (14 + NT.E t) ≤ i) : RMd (pI h y i x) n B k t nm := by
  obtain ⟨c1, c2, c3⟩ := c
  have g74 : (pI h y i x).1 74 = h.1 74 := funext fun j => pI_ne 74 j (Or.inl (by omega))
  have g75 : (pI h y i x).1 75 = h.1 75 := funext fun j => pI_ne 75 j (Or.inl (by omega))
  refine ⟨?_, ?_, c3.wr (fun e he => (ti.2.2.1 e he).2.2.2.2.2.1) (by omega) h76 h78 h79 h83⟩
  · unfold MB; rw [g74, g75]; exact c1
  · unfold MK; rw [g74]; exact c2
theorem RdG.addJ {h : PH} {t : NT} {nm : NMS} {E : Nat} (r : RdG h t nm E) {d x : Int32} {L : List Nat} (a : h.1 76 (9 + NT.J t) = if NT.J t = 0 then NT.wh t else d) (b : h.1 77 (9 + NT.J t) = x) (c : ∀ k, k < 6 → h.1 78 (6 * (9 + NT.J t) + k) = nI (L.getD k 0)) : RdG (pI h 74 25 (nI (NT.J t + 1))) (adJ t d x) (fupd nm (NT.J t) L) E := by
  obtain ⟨r1, r2, r3, r4⟩ := r
  have g : ∀ y, y ≠ 74 → (pI h 74 25 (nI (NT.J t + 1))).1 y = h.1 y := fun y hy => funext fun j => pI_ne y j (Or.inl hy)
  refine ⟨pI_eq, (pI_ne 74 26 (Or.inr (by decide))).trans r2, fun j hj => ?_, fun e he => ?_⟩
  · have hj' : j < NT.J t + 1 := hj
    rw [g 76 (by decide), g 77 (by decide), g 78 (by decide)]
    show h.1 76 (9 + j) = (if j = 0 then NT.wh t else fupd (NT.dr t) (NT.J t) d j) ∧ h.1 77 (9 + j) = fupd (NT.ht t) (NT.J t) x j ∧ ∀ k, k < 6 → h.1 78 (6 * (9 + j) + k) = nI ((fupd nm (NT.J t) L j).getD k 0)
    by_cases q : j = NT.J t
    · rw [q, fupd_s, fupd_s, fupd_s]; exact ⟨a, b, c⟩
    · rw [fupd_n q, fupd_n q, fupd_n q]; exact r3 j (by omega)
  · rw [g 79 (by decide), g 80 (by decide), g 81 (by decide), g 82 (by decide), g 83 (by decide), g 84 (by decide)]; exact r4 e he
theorem RMd.fld {h : PH} {n : Nat} {B : Nat → Nat} {k : TK} (mb : MB h n B) (mk : MK h B k) {j : Nat} (hj : 22 < j) (x : Int32) : MB (pI h 74 j x) n B ∧ MK (pI h 74 j x) B k := by
  have z : ∀ i, i ≤ 22 → (pI h 74 j x).1 74 i = h.1 74 i := fun i hi => pI_ne 74 i (Or.inr (by omega))
  refine ⟨⟨(z 18 (by omega)).trans mb.1, fun i hi => by rw [pI_ne 75 i (Or.inl (by decide))]; exact mb.2 i hi⟩, (z 21 (by omega)).trans mk.1, (z 19 (by omega)).trans mk.2.1, (z 20 (by omega)).trans mk.2.2.1, fun q => (z 22 (by omega)).trans (mk.2.2.2 q)⟩
theorem RMd.whole {h h' : PH} {n : Nat} {B : Nat → Nat} {k k' : TK} {t : NT} {nm : NMS} (c : RMd h n B k t nm) (p : MB h' n B ∧ MK h' B k' ∧ h'.1 74 27 = wv B k ∧ FM noS twF h h') : RMd h' n B k' t nm ∧ FR h h' := ⟨⟨p.1, p.2.1, c.2.2.fm p.2.2.2 (by unfold twF tkF; omega) (by unfold twF tkF; omega)⟩, fr_fm p.2.2.2 (fun k q => twF_r q)⟩
theorem RMd.go {h h' : PH} {n : Nat} {B : Nat → Nat} {k k' : TK} {t : NT} {nm : NMS} (c : RMd h n B k t nm) (p : MK h' B k' ∧ FM noS tkF h h') : RMd h' n B k' t nm ∧ FR h h' := ⟨⟨c.1.fm p.2 (by unfold tkF; omega), p.1, c.2.2.fm p.2 (by unfold tkF; omega) (by unfold tkF; omega)⟩, fr_fm p.2 (fun k q => tkF_r q)⟩
set_option maxRecDepth 100000 in
set_option maxHeartbeats 4000000 in
theorem q_well {h : PH} {n : Nat} {B : Nat → Nat} (ok : OKB n B) {k : TK} {t : NT} {nm : NMS} (c : RMd h n B k t nm) (g : TGd n B k) (ti : TI t) (no : nmOK t nm) (h0 : NT.J t = 0) : Con mX8_readWell 9 [.ref 74] h (fun a h' => a = some (.int (b2i ((spWell B n k t nm).1 = 0))) ∧ MOut h h' n B (spWell B n k t nm)) := by
  have hl := fun e (he : e < NT.E t) => (ti.2.2.1 e he).2.2.2.2.2.1
  have g1 := g.nx.1
  have g2 := g1.nx.1
  refine Con.mk (by decide) ?_
  show RT _ _ 0 [some (.ref 74)] [] _ _
  by_cases hw : k.1 = 1 ∧ wd B k = kwL 0
  · by_cases hn : nF B (nx B n k) t nm = 0
    · by_cases hv : wF B (nx B n (nx B n k)) 0 999 = 0
      · have e : spWell B n k t nm = (0, (nx B n (nx B n (nx B n k))), adJ (setWh t (wv B (nx B n (nx B n k)))) 0 0, fupd nm (NT.J t) (wd B (nx B n k))) := by unfold spWell; rw [if_pos hw, if_pos hn, if_pos hv]
        rw [e]
        refine r_aload_0 dX8_readWell_0 ?_
        refine r_ldcS (i := 0) (by decide) rfl dX8_readWell_1 ?_
        refine r_cV1 mX8_isWord dX8_readWell_3 ml_X8_160 mo_X8_isWord rfl (q_isWord ok c.1 c.2.1 g.1 (i := 0) (by decide)) (by decide) ?_
        rw [b2i_t hw]
        refine r_if_ne 15 dX8_readWell_6 (by decide) (fun c_6 => ?_) (fun c_6 => by exact absurd c_6 (by decide))
        refine r_aload_0 dX8_readWell_15 ?_
        refine r_cVQ0 mX8_takesNew dX8_readWell_16 ml_X8_198 mo_X8_takesNew rfl (q_new ok c g hl (by omega) no) (by decide) (fun h2 p2 => ?_)
        obtain ⟨c2, nr⟩ := p2.1 hn
        rw [b2i_t hn]
        refine r_if_eq 33 dX8_readWell_19 (by decide) (fun c_19 => by exact absurd c_19 (by decide)) (fun c_19 => ?_)
        refine r_aload_0 dX8_readWell_22 ?_
        refine r_iconst (v := 0) dX8_readWell_23 (by decide) ?_
        refine r_sipush (v := 999) dX8_readWell_24 (by decide) ?_
        refine r_cVQ2 mX8_takesWhole dX8_readWell_27 ml_X8_201 mo_X8_takesWhole rfl (q_whole ok c2.1 c2.2.1 g2 0 999) (by decide) (fun h3 p3 => ?_)
        have p3 := p3.1 hv
        obtain ⟨c3, f3⟩ := c2.whole p3
        rw [b2i_t hv]
        refine r_if_ne 35 dX8_readWell_30 (by decide) (fun c_30 => ?_) (fun c_30 => by exact absurd c_30 (by decide))
        refine r_aload_0 dX8_readWell_35 ?_
        refine r_getR (a := 76) dX8_readWell_36 fl_X8_19 rfl rfl ?_
        refine r_bipush (v := nI 9) dX8_readWell_39 (by decide) ?_
        refine r_aload_0 dX8_readWell_41 ?_
        refine r_getI dX8_readWell_42 fl_X8_185 rfl ?_
        rw [p3.2.2.1]
        refine r_iastN dX8_readWell_45 rfl (by omega) ?_
        refine r_aload_0 dX8_readWell_46 ?_
        refine r_getR (a := 77) dX8_readWell_47 fl_X8_22 rfl rfl ?_
        refine r_bipush (v := nI 9) dX8_readWell_50 (by decide) ?_
        refine r_iconst (v := 0) dX8_readWell_52 (by decide) ?_
        refine r_iastN dX8_readWell_53 rfl (by omega) ?_
        refine r_aload_0 dX8_readWell_54 ?_
        refine r_iconst (v := nI 1) dX8_readWell_55 (by decide) ?_
        refine r_putI dX8_readWell_56 fl_X8_174 rfl rfl rfl ?_
        refine r_iconst (v := 1) dX8_readWell_59 (by decide) ?_
        refine r_zret dX8_readWell_60 rfl rfl ?_
        have e78 : h3.1 78 = h2.1 78 := (p3.2.2.2.2.1 78 (by decide) id).1
        refine ⟨(by first | rfl | exact congrArg (fun x => some (Value.int x)) (b2i_t rfl).symm), fun _ => ⟨?_, ?_, ?_⟩, fun q => absurd rfl q, ?_⟩
        · exact (RMd.fld (h := pI (pI h3 76 9 (wv B (nx B n (nx B n k)))) 77 9 0) ⟨((pI_ne 74 18 (Or.inl (by decide))).trans (pI_ne 74 18 (Or.inl (by decide)))).trans c3.1.1, fun i hi => ((pI_ne 75 i (Or.inl (by decide))).trans (pI_ne 75 i (Or.inl (by decide)))).trans (c3.1.2 i hi)⟩ ((c3.wr ti (by decide) (fun _ => by omega) (fun q => by omega) (fun q => by omega) (fun q => by omega)).wr ti (by decide) (fun _ => by omega) (fun q => by omega) (fun q => by omega) (fun q => by omega)).2.1 (by decide) _).1
        · exact (RMd.fld (h := pI (pI h3 76 9 (wv B (nx B n (nx B n k)))) 77 9 0) ((c3.wr ti (by decide) (fun _ => by omega) (fun q => by omega) (fun q => by omega) (fun q => by omega)).wr ti (by decide) (fun _ => by omega) (fun q => by omega) (fun q => by omega) (fun q => by omega)).1 ((c3.wr ti (by decide) (fun _ => by omega) (fun q => by omega) (fun q => by omega) (fun q => by omega)).wr ti (by decide) (fun _ => by omega) (fun q => by omega) (fun q => by omega) (fun q => by omega)).2.1 (by decide) _).2
        · have rd := ((c3.wr (y := 76) (i := 9) (x := wv B (nx B n (nx B n k))) ti (by decide) (fun _ => by omega) (fun q => by omega) (fun q => by omega) (fun q => by omega)).wr (y := 77) (i := 9) (x := 0) ti (by decide) (fun _ => by omega) (fun q => by omega) (fun q => by omega) (fun q => by omega)).2.2
          have rd' : RdG (pI (pI h3 76 9 (wv B (nx B n (nx B n k)))) 77 9 0) (setWh t (wv B (nx B n (nx B n k)))) nm (NT.E t) := ⟨rd.1, rd.2.1, fun j hj => by have : j < NT.J t := hj; omega, rd.2.2.2⟩
          have r := rd'.addJ (d := 0) (x := 0) (L := wd B (nx B n k)) (by rw [show NT.J (setWh t (wv B (nx B n (nx B n k)))) = 0 from h0]; exact (pI_ne 76 9 (Or.inl (by decide))).trans pI_eq) (by rw [show NT.J (setWh t (wv B (nx B n (nx B n k)))) = 0 from h0]; exact pI_eq) (fun x hx => ?_)
          · have e1 : NT.J (setWh t (wv B (nx B n (nx B n k)))) + 1 = 1 := by show NT.J t + 1 = 1; omega
            rw [e1] at r; exact r
          · rw [pI_ne 78 _ (Or.inl (by decide)), pI_ne 78 _ (Or.inl (by decide)), e78]; exact nr x hx
        · exact fr_pF (fr_pA (fr_pA (p2.2.2.tr f3) (by decide) (by decide) (by decide)) (by decide) (by decide) (by decide)) (by decide) (by decide)
      · have e : spWell B n k t nm = (wF B (nx B n (nx B n k)) 0 999, (nx B n (nx B n k)), t, nm) := by unfold spWell; rw [if_pos hw, if_pos hn, if_neg hv]
        rw [e]
        refine r_aload_0 dX8_readWell_0 ?_
        refine r_ldcS (i := 0) (by decide) rfl dX8_readWell_1 ?_
        refine r_cV1 mX8_isWord dX8_readWell_3 ml_X8_160 mo_X8_isWord rfl (q_isWord ok c.1 c.2.1 g.1 (i := 0) (by decide)) (by decide) ?_
        rw [b2i_t hw]
        refine r_if_ne 15 dX8_readWell_6 (by decide) (fun c_6 => ?_) (fun c_6 => by exact absurd c_6 (by decide))
        refine r_aload_0 dX8_readWell_15 ?_
        refine r_cVQ0 mX8_takesNew dX8_readWell_16 ml_X8_198 mo_X8_takesNew rfl (q_new ok c g hl (by omega) no) (by decide) (fun h2 p2 => ?_)
        obtain ⟨c2, nr⟩ := p2.1 hn
        rw [b2i_t hn]
        refine r_if_eq 33 dX8_readWell_19 (by decide) (fun c_19 => by exact absurd c_19 (by decide)) (fun c_19 => ?_)
        refine r_aload_0 dX8_readWell_22 ?_
        refine r_iconst (v := 0) dX8_readWell_23 (by decide) ?_
        refine r_sipush (v := 999) dX8_readWell_24 (by decide) ?_
        refine r_cVQ2 mX8_takesWhole dX8_readWell_27 ml_X8_201 mo_X8_takesWhole rfl (q_whole ok c2.1 c2.2.1 g2 0 999) (by decide) (fun h3 p3 => ?_)
        have e3 := p3.2 hv
        rw [b2i_f hv]
        refine r_if_ne 35 dX8_readWell_30 (by decide) (fun c_30 => by exact absurd rfl c_30) (fun c_30 => ?_)
        refine r_iconst (v := 0) dX8_readWell_33 (by decide) ?_
        refine r_zret dX8_readWell_34 rfl rfl ?_
        rw [e3]
        exact ⟨(by first | rfl | exact congrArg (fun x => some (Value.int x)) (b2i_f hv).symm), fun q => absurd q hv, fun _ => erH_b, erH_f p2.2.2⟩
    · have e : spWell B n k t nm = (nF B (nx B n k) t nm, (nx B n k), t, nm) := by unfold spWell; rw [if_pos hw, if_neg hn]
      rw [e]
      refine r_aload_0 dX8_readWell_0 ?_
      refine r_ldcS (i := 0) (by decide) rfl dX8_readWell_1 ?_
      refine r_cV1 mX8_isWord dX8_readWell_3 ml_X8_160 mo_X8_isWord rfl (q_isWord ok c.1 c.2.1 g.1 (i := 0) (by decide)) (by decide) ?_
      rw [b2i_t hw]
      refine r_if_ne 15 dX8_readWell_6 (by decide) (fun c_6 => ?_) (fun c_6 => by exact absurd c_6 (by decide))
      refine r_aload_0 dX8_readWell_15 ?_
      refine r_cVQ0 mX8_takesNew dX8_readWell_16 ml_X8_198 mo_X8_takesNew rfl (q_new ok c g hl (by omega) no) (by decide) (fun h2 p2 => ?_)
      rw [b2i_f hn]
      refine r_if_eq 33 dX8_readWell_19 (by decide) (fun c_19 => ?_) (fun c_19 => by exact absurd rfl c_19)
      refine r_iconst (v := 0) dX8_readWell_33 (by decide) ?_
      refine r_zret dX8_readWell_34 rfl rfl ?_
      exact ⟨(by first | rfl | exact congrArg (fun x => some (Value.int x)) (b2i_f hn).symm), fun q => absurd q hn, fun _ => p2.2.1 hn, p2.2.2⟩
  · have e : spWell B n k t nm = (1, k, t, nm) := by unfold spWell; rw [if_neg hw]
    rw [e]
    refine r_aload_0 dX8_readWell_0 ?_
    refine r_ldcS (i := 0) (by decide) rfl dX8_readWell_1 ?_
    refine r_cV1 mX8_isWord dX8_readWell_3 ml_X8_160 mo_X8_isWord rfl (q_isWord ok c.1 c.2.1 g.1 (i := 0) (by decide)) (by decide) ?_
    rw [b2i_f hw]
    refine r_if_ne 15 dX8_readWell_6 (by decide) (fun c_6 => by exact absurd rfl c_6) (fun c_6 => ?_)
    refine r_aload_0 dX8_readWell_9 ?_
    refine r_iconst (v := 1) dX8_readWell_10 (by decide) ?_
    refine r_cV1 mX8_errs dX8_readWell_11 ml_X8_181 mo_X8_errs rfl (q_errs c.2.1 1) (by decide) ?_
    refine r_zret dX8_readWell_14 rfl rfl ?_
    exact ⟨(by first | rfl | exact congrArg (fun x => some (Value.int x)) (b2i_f (show ¬ ((1 : Int32) = 0) by decide)).symm), fun q => absurd q (show ¬ ((1 : Int32) = 0) by decide), fun _ => erH_b, erH_f FR.rf⟩

set_option maxRecDepth 100000 in
set_option maxHeartbeats 4000000 in
theorem q_joint {h : PH} {n : Nat} {B : Nat → Nat} (ok : OKB n B) {k : TK} {t : NT} {nm : NMS} (c : RMd h n B k t nm) (g : TGd n B k) (ti : TI t) (no : nmOK t nm) (hJ0 : 0 < NT.J t) : Con mX8_readJoint 9 [.ref 74] h (fun a h' => a = some (.int (b2i ((spJoint B n k t nm).1 = 0))) ∧ MOut h h' n B (spJoint B n k t nm)) := by
  have hJ := ti.1
  have hl := fun e (he : e < NT.E t) => (ti.2.2.1 e he).2.2.2.2.2.1
  have k0 : h.1 74 25 = nI (NT.J t) := c.2.2.1
  have g1 := g.nx.1
  have g2 := g1.nx.1
  have g3 := g2.nx.1
  have g4 := g3.nx.1
  refine Con.mk (by decide) ?_
  show RT _ _ 0 [some (.ref 74)] [] _ _
  by_cases h9 : NT.J t = 9
  · have e : spJoint B n k t nm = (4, k, t, nm) := by unfold spJoint; rw [if_pos h9]
    rw [e]
    refine r_aload_0 dX8_readJoint_0 ?_
    refine r_getI dX8_readJoint_1 fl_X8_174 rfl ?_
    rw [k0]
    refine r_bipush (v := nI 9) dX8_readJoint_4 (by decide) ?_
    refine r_icmpN_ne 15 dX8_readJoint_6 (by decide) (by omega) (by omega) (fun c_6 => by omega) (fun c_6 => ?_)
    refine r_aload_0 dX8_readJoint_9 ?_
    refine r_iconst (v := 4) dX8_readJoint_10 (by decide) ?_
    refine r_cV1 mX8_errs dX8_readJoint_11 ml_X8_181 mo_X8_errs rfl (q_errs c.2.1 4) (by decide) ?_
    refine r_zret dX8_readJoint_14 rfl rfl ?_
    exact ⟨(by first | rfl | exact congrArg (fun x => some (Value.int x)) (b2i_f (show ¬ ((4 : Int32) = 0) by decide)).symm), fun q => absurd q (show ¬ ((4 : Int32) = 0) by decide), fun _ => erH_b, erH_f FR.rf⟩
  · by_cases hn : nF B (nx B n k) t nm = 0
    · by_cases hv : wF B (nx B n (nx B n k)) 0 60 = 0
      · have eq0 : spJoint B n k t nm = spJ2 B n (wv B (nx B n (nx B n k))) (wd B (nx B n k)) (nx B n (nx B n (nx B n k))) t nm := by unfold spJoint; rw [if_neg h9, if_pos hn, if_pos hv]
        rw [eq0]
        by_cases ha : (nx B n (nx B n (nx B n k))).1 = 1 ∧ wd B (nx B n (nx B n (nx B n k))) = kwL 2
        · by_cases hz : wF B (nx B n (nx B n (nx B n (nx B n k)))) 0 300 = 0
          · have e : spJ2 B n (wv B (nx B n (nx B n k))) (wd B (nx B n k)) (nx B n (nx B n (nx B n k))) t nm = (0, nx B n (nx B n (nx B n (nx B n (nx B n k)))), adJ t (wv B (nx B n (nx B n k))) (wv B (nx B n (nx B n (nx B n (nx B n k))))), fupd nm (NT.J t) (wd B (nx B n k))) := by unfold spJ2; rw [if_pos ha, if_pos hz]
            rw [e]
            refine r_aload_0 dX8_readJoint_0 ?_
            refine r_getI dX8_readJoint_1 fl_X8_174 rfl ?_
            rw [k0]
            refine r_bipush (v := nI 9) dX8_readJoint_4 (by decide) ?_
            refine r_icmpN_ne 15 dX8_readJoint_6 (by decide) (by omega) (by omega) (fun c_6 => ?_) (fun c_6 => by omega)
            refine r_aload_0 dX8_readJoint_15 ?_
            refine r_cVQ0 mX8_takesNew dX8_readJoint_16 ml_X8_198 mo_X8_takesNew rfl (q_new ok c g hl (by omega) no) (by decide) (fun h2 p2 => ?_)
            obtain ⟨c2, nr⟩ := p2.1 hn
            rw [b2i_t hn]
            refine r_if_eq 32 dX8_readJoint_19 (by decide) (fun c_19 => by exact absurd c_19 (by decide)) (fun c_19 => ?_)
            refine r_aload_0 dX8_readJoint_22 ?_
            refine r_iconst (v := 0) dX8_readJoint_23 (by decide) ?_
            refine r_bipush (v := 60) dX8_readJoint_24 (by decide) ?_
            refine r_cVQ2 mX8_takesWhole dX8_readJoint_26 ml_X8_201 mo_X8_takesWhole rfl (q_whole ok c2.1 c2.2.1 g2 0 60) (by decide) (fun h3 p3 => ?_)
            have p3 := p3.1 hv
            obtain ⟨c3, f3⟩ := c2.whole p3
            have k3 : h3.1 74 25 = nI (NT.J t) := c3.2.2.1
            have c4 := c3.wr (y := 76) (i := 9 + NT.J t) (x := (wv B (nx B n (nx B n k)))) ti (by decide) (fun _ => by omega) (fun q => by omega) (fun q => by omega) (fun q => by omega)
            have f4 : FR h (pI h3 76 (9 + NT.J t) (wv B (nx B n (nx B n k)))) := fr_pA (p2.2.2.tr f3) (by decide) (by decide) (by show 9 ≤ 9 + NT.J t; omega)
            have e78 : h3.1 78 = h2.1 78 := (p3.2.2.2.2.1 78 (by decide) id).1
            rw [b2i_t hv]
            refine r_if_ne 34 dX8_readJoint_29 (by decide) (fun c_29 => ?_) (fun c_29 => by exact absurd c_29 (by decide))
            refine r_aload_0 dX8_readJoint_34 ?_
            refine r_getR (a := 76) dX8_readJoint_35 fl_X8_19 rfl rfl ?_
            refine r_bipush (v := nI 9) dX8_readJoint_38 (by decide) ?_
            refine r_aload_0 dX8_readJoint_40 ?_
            refine r_getI dX8_readJoint_41 fl_X8_174 rfl ?_
            rw [k3]
            refine r_iadd dX8_readJoint_44 ?_
            rw [nI_ad9]
            refine r_aload_0 dX8_readJoint_45 ?_
            refine r_getI dX8_readJoint_46 fl_X8_185 rfl ?_
            rw [p3.2.2.1]
            refine r_iastN dX8_readJoint_49 rfl (by omega) ?_
            refine r_aload_0 dX8_readJoint_50 ?_
            refine r_ldcS (i := 2) (by decide) rfl dX8_readJoint_51 ?_
            refine r_cV1 mX8_isWord dX8_readJoint_53 ml_X8_160 mo_X8_isWord rfl (q_isWord ok c4.1 c4.2.1 g3.1 (i := 2) (by decide)) (by decide) ?_
            rw [b2i_t ha]
            refine r_if_ne 65 dX8_readJoint_56 (by decide) (fun c_56 => ?_) (fun c_56 => by exact absurd c_56 (by decide))
            refine r_aload_0 dX8_readJoint_65 ?_
            refine r_cWQ0 mX8_goesOn dX8_readJoint_66 ml_X8_188 mo_X8_goesOn rfl (q_goesOn ok c4.1 g3.1.2.1 c4.2.1.2.2.1) (by decide) (fun h5 p5 => ?_)
            obtain ⟨c5, f5⟩ := c4.go (k' := (nx B n (nx B n (nx B n (nx B n k))))) p5
            refine r_aload_0 dX8_readJoint_69 ?_
            refine r_iconst (v := 0) dX8_readJoint_70 (by decide) ?_
            refine r_sipush (v := 300) dX8_readJoint_71 (by decide) ?_
            refine r_cVQ2 mX8_takesWhole dX8_readJoint_74 ml_X8_201 mo_X8_takesWhole rfl (q_whole ok c5.1 c5.2.1 g4 0 300) (by decide) (fun h6 p6 => ?_)
            have p6 := p6.1 hz
            obtain ⟨c6, f6⟩ := c5.whole p6
            have k6 : h6.1 74 25 = nI (NT.J t) := c6.2.2.1
            have c7 := c6.wr (y := 77) (i := 9 + NT.J t) (x := (wv B (nx B n (nx B n (nx B n (nx B n k)))))) ti (by decide) (fun _ => by omega) (fun q => by omega) (fun q => by omega) (fun q => by omega)
            rw [b2i_t hz]
            refine r_if_ne 82 dX8_readJoint_77 (by decide) (fun c_77 => ?_) (fun c_77 => by exact absurd c_77 (by decide))
            refine r_aload_0 dX8_readJoint_82 ?_
            refine r_getR (a := 77) dX8_readJoint_83 fl_X8_22 rfl rfl ?_
            refine r_bipush (v := nI 9) dX8_readJoint_86 (by decide) ?_
            refine r_aload_0 dX8_readJoint_88 ?_
            refine r_getI dX8_readJoint_89 fl_X8_174 rfl ?_
            rw [k6]
            refine r_iadd dX8_readJoint_92 ?_
            rw [nI_ad9]
            refine r_aload_0 dX8_readJoint_93 ?_
            refine r_getI dX8_readJoint_94 fl_X8_185 rfl ?_
            rw [p6.2.2.1]
            refine r_iastN dX8_readJoint_97 rfl (by omega) ?_
            refine r_aload_0 dX8_readJoint_98 ?_
            refine r_dupr dX8_readJoint_99 ?_
            refine r_getI dX8_readJoint_100 fl_X8_174 rfl ?_
            rw [show (pI h6 77 (9 + NT.J t) (wv B (nx B n (nx B n (nx B n (nx B n k)))))).1 74 25 = nI (NT.J t) from (pI_ne 74 25 (Or.inl (by decide))).trans k6]
            refine r_iconst (v := nI 1) dX8_readJoint_103 (by decide) ?_
            refine r_iadd dX8_readJoint_104 ?_
            rw [nI_ad9]
            refine r_putI dX8_readJoint_105 fl_X8_174 rfl rfl rfl ?_
            refine r_iconst (v := 1) dX8_readJoint_108 (by decide) ?_
            refine r_zret dX8_readJoint_109 rfl rfl ?_
            have x76 : h6.1 76 = (pI h3 76 (9 + NT.J t) (wv B (nx B n (nx B n k)))).1 76 := (p6.2.2.2.2.1 76 (by decide) id).1.trans (p5.2.2.1 76 (by decide) id).1
            have x78 : h6.1 78 = h2.1 78 := ((p6.2.2.2.2.1 78 (by decide) id).1.trans (p5.2.2.1 78 (by decide) id).1).trans ((funext fun j => pI_ne 78 j (Or.inl (by decide))).trans e78)
            have r := c7.2.2.addJ (d := (wv B (nx B n (nx B n k)))) (x := (wv B (nx B n (nx B n (nx B n (nx B n k)))))) (L := wd B (nx B n k)) (by rw [if_neg (by omega), pI_ne 76 _ (Or.inl (by decide)), x76]; exact pI_eq) pI_eq (fun x hx => by rw [pI_ne 78 _ (Or.inl (by decide)), x78]; exact nr x hx)
            have q := RMd.fld c7.1 c7.2.1 (j := 25) (by decide) (nI (NT.J t + 1))
            exact ⟨(by first | rfl | exact congrArg (fun x => some (Value.int x)) (b2i_t rfl).symm), fun _ => ⟨q.1, q.2, r⟩, fun q => absurd rfl q, fr_pF (fr_pA ((f4.tr f5).tr f6) (by decide) (by decide) (by show 9 ≤ 9 + NT.J t; omega)) (by decide) (by decide)⟩
          · have e : spJ2 B n (wv B (nx B n (nx B n k))) (wd B (nx B n k)) (nx B n (nx B n (nx B n k))) t nm = (wF B (nx B n (nx B n (nx B n (nx B n k)))) 0 300, (nx B n (nx B n (nx B n (nx B n k)))), t, nm) := by unfold spJ2; rw [if_pos ha, if_neg hz]
            rw [e]
            refine r_aload_0 dX8_readJoint_0 ?_
            refine r_getI dX8_readJoint_1 fl_X8_174 rfl ?_
            rw [k0]
            refine r_bipush (v := nI 9) dX8_readJoint_4 (by decide) ?_
            refine r_icmpN_ne 15 dX8_readJoint_6 (by decide) (by omega) (by omega) (fun c_6 => ?_) (fun c_6 => by omega)
            refine r_aload_0 dX8_readJoint_15 ?_
            refine r_cVQ0 mX8_takesNew dX8_readJoint_16 ml_X8_198 mo_X8_takesNew rfl (q_new ok c g hl (by omega) no) (by decide) (fun h2 p2 => ?_)
            obtain ⟨c2, nr⟩ := p2.1 hn
            rw [b2i_t hn]
            refine r_if_eq 32 dX8_readJoint_19 (by decide) (fun c_19 => by exact absurd c_19 (by decide)) (fun c_19 => ?_)
            refine r_aload_0 dX8_readJoint_22 ?_
            refine r_iconst (v := 0) dX8_readJoint_23 (by decide) ?_
            refine r_bipush (v := 60) dX8_readJoint_24 (by decide) ?_
            refine r_cVQ2 mX8_takesWhole dX8_readJoint_26 ml_X8_201 mo_X8_takesWhole rfl (q_whole ok c2.1 c2.2.1 g2 0 60) (by decide) (fun h3 p3 => ?_)
            have p3 := p3.1 hv
            obtain ⟨c3, f3⟩ := c2.whole p3
            have k3 : h3.1 74 25 = nI (NT.J t) := c3.2.2.1
            have c4 := c3.wr (y := 76) (i := 9 + NT.J t) (x := (wv B (nx B n (nx B n k)))) ti (by decide) (fun _ => by omega) (fun q => by omega) (fun q => by omega) (fun q => by omega)
            have f4 : FR h (pI h3 76 (9 + NT.J t) (wv B (nx B n (nx B n k)))) := fr_pA (p2.2.2.tr f3) (by decide) (by decide) (by show 9 ≤ 9 + NT.J t; omega)
            have e78 : h3.1 78 = h2.1 78 := (p3.2.2.2.2.1 78 (by decide) id).1
            rw [b2i_t hv]
            refine r_if_ne 34 dX8_readJoint_29 (by decide) (fun c_29 => ?_) (fun c_29 => by exact absurd c_29 (by decide))
            refine r_aload_0 dX8_readJoint_34 ?_
            refine r_getR (a := 76) dX8_readJoint_35 fl_X8_19 rfl rfl ?_
            refine r_bipush (v := nI 9) dX8_readJoint_38 (by decide) ?_
            refine r_aload_0 dX8_readJoint_40 ?_
            refine r_getI dX8_readJoint_41 fl_X8_174 rfl ?_
            rw [k3]
            refine r_iadd dX8_readJoint_44 ?_
            rw [nI_ad9]
            refine r_aload_0 dX8_readJoint_45 ?_
            refine r_getI dX8_readJoint_46 fl_X8_185 rfl ?_
            rw [p3.2.2.1]
            refine r_iastN dX8_readJoint_49 rfl (by omega) ?_
            refine r_aload_0 dX8_readJoint_50 ?_
            refine r_ldcS (i := 2) (by decide) rfl dX8_readJoint_51 ?_
            refine r_cV1 mX8_isWord dX8_readJoint_53 ml_X8_160 mo_X8_isWord rfl (q_isWord ok c4.1 c4.2.1 g3.1 (i := 2) (by decide)) (by decide) ?_
            rw [b2i_t ha]
            refine r_if_ne 65 dX8_readJoint_56 (by decide) (fun c_56 => ?_) (fun c_56 => by exact absurd c_56 (by decide))
            refine r_aload_0 dX8_readJoint_65 ?_
            refine r_cWQ0 mX8_goesOn dX8_readJoint_66 ml_X8_188 mo_X8_goesOn rfl (q_goesOn ok c4.1 g3.1.2.1 c4.2.1.2.2.1) (by decide) (fun h5 p5 => ?_)
            obtain ⟨c5, f5⟩ := c4.go (k' := (nx B n (nx B n (nx B n (nx B n k))))) p5
            refine r_aload_0 dX8_readJoint_69 ?_
            refine r_iconst (v := 0) dX8_readJoint_70 (by decide) ?_
            refine r_sipush (v := 300) dX8_readJoint_71 (by decide) ?_
            refine r_cVQ2 mX8_takesWhole dX8_readJoint_74 ml_X8_201 mo_X8_takesWhole rfl (q_whole ok c5.1 c5.2.1 g4 0 300) (by decide) (fun h6 p6 => ?_)
            have e6 := p6.2 hz
            rw [b2i_f hz]
            refine r_if_ne 82 dX8_readJoint_77 (by decide) (fun c_77 => by exact absurd rfl c_77) (fun c_77 => ?_)
            refine r_iconst (v := 0) dX8_readJoint_80 (by decide) ?_
            refine r_zret dX8_readJoint_81 rfl rfl ?_
            rw [e6]
            exact ⟨(by first | rfl | exact congrArg (fun x => some (Value.int x)) (b2i_f hz).symm), fun q => absurd q hz, fun _ => erH_b, erH_f (f4.tr f5)⟩
        · have e : spJ2 B n (wv B (nx B n (nx B n k))) (wd B (nx B n k)) (nx B n (nx B n (nx B n k))) t nm = (1, (nx B n (nx B n (nx B n k))), t, nm) := by unfold spJ2; rw [if_neg ha]
          rw [e]
          refine r_aload_0 dX8_readJoint_0 ?_
          refine r_getI dX8_readJoint_1 fl_X8_174 rfl ?_
          rw [k0]
          refine r_bipush (v := nI 9) dX8_readJoint_4 (by decide) ?_
          refine r_icmpN_ne 15 dX8_readJoint_6 (by decide) (by omega) (by omega) (fun c_6 => ?_) (fun c_6 => by omega)
          refine r_aload_0 dX8_readJoint_15 ?_
          refine r_cVQ0 mX8_takesNew dX8_readJoint_16 ml_X8_198 mo_X8_takesNew rfl (q_new ok c g hl (by omega) no) (by decide) (fun h2 p2 => ?_)
          obtain ⟨c2, nr⟩ := p2.1 hn
          rw [b2i_t hn]
          refine r_if_eq 32 dX8_readJoint_19 (by decide) (fun c_19 => by exact absurd c_19 (by decide)) (fun c_19 => ?_)
          refine r_aload_0 dX8_readJoint_22 ?_
          refine r_iconst (v := 0) dX8_readJoint_23 (by decide) ?_
          refine r_bipush (v := 60) dX8_readJoint_24 (by decide) ?_
          refine r_cVQ2 mX8_takesWhole dX8_readJoint_26 ml_X8_201 mo_X8_takesWhole rfl (q_whole ok c2.1 c2.2.1 g2 0 60) (by decide) (fun h3 p3 => ?_)
          have p3 := p3.1 hv
          obtain ⟨c3, f3⟩ := c2.whole p3
          have k3 : h3.1 74 25 = nI (NT.J t) := c3.2.2.1
          have c4 := c3.wr (y := 76) (i := 9 + NT.J t) (x := (wv B (nx B n (nx B n k)))) ti (by decide) (fun _ => by omega) (fun q => by omega) (fun q => by omega) (fun q => by omega)
          have f4 : FR h (pI h3 76 (9 + NT.J t) (wv B (nx B n (nx B n k)))) := fr_pA (p2.2.2.tr f3) (by decide) (by decide) (by show 9 ≤ 9 + NT.J t; omega)
          have e78 : h3.1 78 = h2.1 78 := (p3.2.2.2.2.1 78 (by decide) id).1
          rw [b2i_t hv]
          refine r_if_ne 34 dX8_readJoint_29 (by decide) (fun c_29 => ?_) (fun c_29 => by exact absurd c_29 (by decide))
          refine r_aload_0 dX8_readJoint_34 ?_
          refine r_getR (a := 76) dX8_readJoint_35 fl_X8_19 rfl rfl ?_
          refine r_bipush (v := nI 9) dX8_readJoint_38 (by decide) ?_
          refine r_aload_0 dX8_readJoint_40 ?_
          refine r_getI dX8_readJoint_41 fl_X8_174 rfl ?_
          rw [k3]
          refine r_iadd dX8_readJoint_44 ?_
          rw [nI_ad9]
          refine r_aload_0 dX8_readJoint_45 ?_
          refine r_getI dX8_readJoint_46 fl_X8_185 rfl ?_
          rw [p3.2.2.1]
          refine r_iastN dX8_readJoint_49 rfl (by omega) ?_
          refine r_aload_0 dX8_readJoint_50 ?_
          refine r_ldcS (i := 2) (by decide) rfl dX8_readJoint_51 ?_
          refine r_cV1 mX8_isWord dX8_readJoint_53 ml_X8_160 mo_X8_isWord rfl (q_isWord ok c4.1 c4.2.1 g3.1 (i := 2) (by decide)) (by decide) ?_
          rw [b2i_f ha]
          refine r_if_ne 65 dX8_readJoint_56 (by decide) (fun c_56 => by exact absurd rfl c_56) (fun c_56 => ?_)
          refine r_aload_0 dX8_readJoint_59 ?_
          refine r_iconst (v := 1) dX8_readJoint_60 (by decide) ?_
          refine r_cV1 mX8_errs dX8_readJoint_61 ml_X8_181 mo_X8_errs rfl (q_errs c4.2.1 1) (by decide) ?_
          refine r_zret dX8_readJoint_64 rfl rfl ?_
          exact ⟨(by first | rfl | exact congrArg (fun x => some (Value.int x)) (b2i_f (show ¬ ((1 : Int32) = 0) by decide)).symm), fun q => absurd q (show ¬ ((1 : Int32) = 0) by decide), fun _ => erH_b, erH_f f4⟩
      · have e : spJoint B n k t nm = (wF B (nx B n (nx B n k)) 0 60, (nx B n (nx B n k)), t, nm) := by unfold spJoint; rw [if_neg h9, if_pos hn, if_neg hv]
        rw [e]
        refine r_aload_0 dX8_readJoint_0 ?_
        refine r_getI dX8_readJoint_1 fl_X8_174 rfl ?_
        rw [k0]
        refine r_bipush (v := nI 9) dX8_readJoint_4 (by decide) ?_
        refine r_icmpN_ne 15 dX8_readJoint_6 (by decide) (by omega) (by omega) (fun c_6 => ?_) (fun c_6 => by omega)
        refine r_aload_0 dX8_readJoint_15 ?_
        refine r_cVQ0 mX8_takesNew dX8_readJoint_16 ml_X8_198 mo_X8_takesNew rfl (q_new ok c g hl (by omega) no) (by decide) (fun h2 p2 => ?_)
        obtain ⟨c2, nr⟩ := p2.1 hn
        rw [b2i_t hn]
        refine r_if_eq 32 dX8_readJoint_19 (by decide) (fun c_19 => by exact absurd c_19 (by decide)) (fun c_19 => ?_)
        refine r_aload_0 dX8_readJoint_22 ?_
        refine r_iconst (v := 0) dX8_readJoint_23 (by decide) ?_
        refine r_bipush (v := 60) dX8_readJoint_24 (by decide) ?_
        refine r_cVQ2 mX8_takesWhole dX8_readJoint_26 ml_X8_201 mo_X8_takesWhole rfl (q_whole ok c2.1 c2.2.1 g2 0 60) (by decide) (fun h3 p3 => ?_)
        have e3 := p3.2 hv
        rw [b2i_f hv]
        refine r_if_ne 34 dX8_readJoint_29 (by decide) (fun c_29 => by exact absurd rfl c_29) (fun c_29 => ?_)
        refine r_iconst (v := 0) dX8_readJoint_32 (by decide) ?_
        refine r_zret dX8_readJoint_33 rfl rfl ?_
        rw [e3]
        exact ⟨(by first | rfl | exact congrArg (fun x => some (Value.int x)) (b2i_f hv).symm), fun q => absurd q hv, fun _ => erH_b, erH_f p2.2.2⟩
    · have e : spJoint B n k t nm = (nF B (nx B n k) t nm, (nx B n k), t, nm) := by unfold spJoint; rw [if_neg h9, if_neg hn]
      rw [e]
      refine r_aload_0 dX8_readJoint_0 ?_
      refine r_getI dX8_readJoint_1 fl_X8_174 rfl ?_
      rw [k0]
      refine r_bipush (v := nI 9) dX8_readJoint_4 (by decide) ?_
      refine r_icmpN_ne 15 dX8_readJoint_6 (by decide) (by omega) (by omega) (fun c_6 => ?_) (fun c_6 => by omega)
      refine r_aload_0 dX8_readJoint_15 ?_
      refine r_cVQ0 mX8_takesNew dX8_readJoint_16 ml_X8_198 mo_X8_takesNew rfl (q_new ok c g hl (by omega) no) (by decide) (fun h2 p2 => ?_)
      rw [b2i_f hn]
      refine r_if_eq 32 dX8_readJoint_19 (by decide) (fun c_19 => ?_) (fun c_19 => by exact absurd rfl c_19)
      refine r_iconst (v := 0) dX8_readJoint_32 (by decide) ?_
      refine r_zret dX8_readJoint_33 rfl rfl ?_
      exact ⟨(by first | rfl | exact congrArg (fun x => some (Value.int x)) (b2i_f hn).symm), fun q => absurd q hn, fun _ => p2.2.1 hn, p2.2.2⟩

set_option maxRecDepth 100000 in
set_option maxHeartbeats 4000000 in
theorem q_tj {h : PH} {n : Nat} {B : Nat → Nat} (ok : OKB n B) {k : TK} {t : NT} {nm : NMS} (c : RMd h n B k t nm) (g : TGd n B k) (hJ : NT.J t ≤ 9) (no : nmOK t nm) {j : Nat} (hj : jA B k t nm = some j) {x : Int32} (hx : nI j ≠ x) : Con mX8_takesJoint 8 [.ref 74, .int x] h (fun a h' => a = some (.int (nI j)) ∧ (RMd h' n B (nx B n k) t nm ∧ FM noS tkF h h')) := by
  have h1 : isNm B k := by unfold jA at hj; split at hj; assumption; cases hj
  have hj' : jH nm (NT.J t) (wd B k) = some j := (if_pos h1).symm.trans hj
  have hj9 := jH_lt hj'
  have cj : ConF mX8_jointHere 2 [.ref 74] h (some (.int (nI j))) h := by have q := q_jh ok c.1 c.2.1 g.1 c.2.2 hJ no; rw [hj'] at q; exact q
  refine Con.mk (by decide) ?_
  show RT _ _ 0 [some (.ref 74), some (.int x), none] [] _ _
  refine r_aload_0 dX8_takesJoint_0 ?_
  refine r_cV0 mX8_isName dX8_takesJoint_1 ml_X8_191 mo_X8_isName rfl (q_isName ok c.1 c.2.1 g.1) (by decide) ?_
  rw [b2i_t h1]
  refine r_if_ne 15 dX8_takesJoint_4 (by decide) (fun c_4 => ?_) (fun c_4 => by exact absurd c_4 (by decide))
  refine r_aload_0 dX8_takesJoint_15 ?_
  refine r_cV0 mX8_jointHere dX8_takesJoint_16 ml_X8_195 mo_X8_jointHere rfl cj (by decide) ?_
  refine r_istore_2 dX8_takesJoint_19 ?_
  refine r_iload_2 dX8_takesJoint_20 ?_
  refine r_iconst (v := (-1)) dX8_takesJoint_21 (by decide) ?_
  refine r_icmp_eq 30 dX8_takesJoint_22 (by decide) (fun c_22 => by exact absurd c_22 (nI_ne_m1 (by omega))) (fun c_22 => ?_)
  refine r_iload_2 dX8_takesJoint_25 ?_
  refine r_iload_1 dX8_takesJoint_26 ?_
  refine r_icmp_ne 38 dX8_takesJoint_27 (by decide) (fun c_27 => ?_) (fun c_27 => by exact absurd c_27 hx)
  refine r_aload_0 dX8_takesJoint_38 ?_
  refine r_cWQ0 mX8_goesOn dX8_takesJoint_39 ml_X8_188 mo_X8_goesOn rfl (q_goesOn ok c.1 g.1.2.1 c.2.1.2.2.1) (by decide) (fun h2 p2 => ?_)
  refine r_iload_2 dX8_takesJoint_42 ?_
  refine r_iret dX8_takesJoint_43 rfl ?_
  exact ⟨rfl, (c.go p2).1, p2.2⟩

set_option maxRecDepth 100000 in
set_option maxHeartbeats 4000000 in
theorem q_tjn {h : PH} {n : Nat} {B : Nat → Nat} (ok : OKB n B) {k : TK} {t : NT} {nm : NMS} (c : RMd h n B k t nm) (g : TGd n B k) (hJ : NT.J t ≤ 9) (no : nmOK t nm) {x : Int32} (hj : jA B k t nm = none ∨ ∃ j, jA B k t nm = some j ∧ nI j = x) : ConF mX8_takesJoint 8 [.ref 74, .int x] h (some (.int (-1))) (erH h (jFl B k) k) := by
  refine Con.mk (by decide) ?_
  show RT _ _ 0 [some (.ref 74), some (.int x), none] [] _ _
  by_cases h1 : isNm B k
  · have ef : jFl B k = 3 := if_pos h1
    have ea : jA B k t nm = jH nm (NT.J t) (wd B k) := if_pos h1
    rw [ef]
    rw [ea] at hj
    have q := q_jh ok c.1 c.2.1 g.1 c.2.2 hJ no
    rcases hj with hj | ⟨j, hj, hx⟩
    · rw [hj] at q
      have cj : ConF mX8_jointHere 2 [.ref 74] h (some (.int (-1))) h := q
      refine r_aload_0 dX8_takesJoint_0 ?_
      refine r_cV0 mX8_isName dX8_takesJoint_1 ml_X8_191 mo_X8_isName rfl (q_isName ok c.1 c.2.1 g.1) (by decide) ?_
      rw [b2i_t h1]
      refine r_if_ne 15 dX8_takesJoint_4 (by decide) (fun c_4 => ?_) (fun c_4 => by exact absurd c_4 (by decide))
      refine r_aload_0 dX8_takesJoint_15 ?_
      refine r_cV0 mX8_jointHere dX8_takesJoint_16 ml_X8_195 mo_X8_jointHere rfl cj (by decide) ?_
      refine r_istore_2 dX8_takesJoint_19 ?_
      refine r_iload_2 dX8_takesJoint_20 ?_
      refine r_iconst (v := (-1)) dX8_takesJoint_21 (by decide) ?_
      refine r_icmp_eq 30 dX8_takesJoint_22 (by decide) (fun c_22 => ?_) (fun c_22 => by exact absurd rfl c_22)
      refine r_aload_0 dX8_takesJoint_30 ?_
      refine r_iconst (v := 3) dX8_takesJoint_31 (by decide) ?_
      refine r_cV1 mX8_errs dX8_takesJoint_32 ml_X8_181 mo_X8_errs rfl (q_errs c.2.1 3) (by decide) ?_
      refine r_popi dX8_takesJoint_35 ?_
      refine r_iconst (v := (-1)) dX8_takesJoint_36 (by decide) ?_
      refine r_iret dX8_takesJoint_37 rfl ?_
      exact ⟨rfl, rfl⟩
    · have hj9 := jH_lt hj
      rw [hj] at q
      have cj : ConF mX8_jointHere 2 [.ref 74] h (some (.int (nI j))) h := q
      refine r_aload_0 dX8_takesJoint_0 ?_
      refine r_cV0 mX8_isName dX8_takesJoint_1 ml_X8_191 mo_X8_isName rfl (q_isName ok c.1 c.2.1 g.1) (by decide) ?_
      rw [b2i_t h1]
      refine r_if_ne 15 dX8_takesJoint_4 (by decide) (fun c_4 => ?_) (fun c_4 => by exact absurd c_4 (by decide))
      refine r_aload_0 dX8_takesJoint_15 ?_
      refine r_cV0 mX8_jointHere dX8_takesJoint_16 ml_X8_195 mo_X8_jointHere rfl cj (by decide) ?_
      refine r_istore_2 dX8_takesJoint_19 ?_
      refine r_iload_2 dX8_takesJoint_20 ?_
      refine r_iconst (v := (-1)) dX8_takesJoint_21 (by decide) ?_
      refine r_icmp_eq 30 dX8_takesJoint_22 (by decide) (fun c_22 => by exact absurd c_22 (nI_ne_m1 (by omega))) (fun c_22 => ?_)
      refine r_iload_2 dX8_takesJoint_25 ?_
      refine r_iload_1 dX8_takesJoint_26 ?_
      refine r_icmp_ne 38 dX8_takesJoint_27 (by decide) (fun c_27 => by exact absurd hx c_27) (fun c_27 => ?_)
      refine r_aload_0 dX8_takesJoint_30 ?_
      refine r_iconst (v := 3) dX8_takesJoint_31 (by decide) ?_
      refine r_cV1 mX8_errs dX8_takesJoint_32 ml_X8_181 mo_X8_errs rfl (q_errs c.2.1 3) (by decide) ?_
      refine r_popi dX8_takesJoint_35 ?_
      refine r_iconst (v := (-1)) dX8_takesJoint_36 (by decide) ?_
      refine r_iret dX8_takesJoint_37 rfl ?_
      exact ⟨rfl, rfl⟩
  · have ef : jFl B k = 1 := if_neg h1
    rw [ef]
    refine r_aload_0 dX8_takesJoint_0 ?_
    refine r_cV0 mX8_isName dX8_takesJoint_1 ml_X8_191 mo_X8_isName rfl (q_isName ok c.1 c.2.1 g.1) (by decide) ?_
    rw [b2i_f h1]
    refine r_if_ne 15 dX8_takesJoint_4 (by decide) (fun c_4 => by exact absurd rfl c_4) (fun c_4 => ?_)
    refine r_aload_0 dX8_takesJoint_7 ?_
    refine r_iconst (v := 1) dX8_takesJoint_8 (by decide) ?_
    refine r_cV1 mX8_errs dX8_takesJoint_9 ml_X8_181 mo_X8_errs rfl (q_errs c.2.1 1) (by decide) ?_
    refine r_popi dX8_takesJoint_12 ?_
    refine r_iconst (v := (-1)) dX8_takesJoint_13 (by decide) ?_
    refine r_iret dX8_takesJoint_14 rfl ?_
    exact ⟨rfl, rfl⟩

