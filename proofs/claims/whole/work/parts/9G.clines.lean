/-! ===== the class reads: lines ===== -/
def COut (h0 h' : PH) (n : Nat) (B : Nat → Nat) (r : RS) : Prop := (r.1 = 0 → CRd h' n B r.2.1 r.2.2.1 r.2.2.2) ∧ (r.1 ≠ 0 → h'.1 2 4 = r.1 ∧ h'.1 2 5 = nI r.2.1.2.1) ∧ FCr h0 h'
theorem CRd.bad {h : PH} {n : Nat} {B : Nat → Nat} {k : TK} {t : NT} {nm : NMS} (c : CRd h n B k t nm) (x : Int32) : (pI h 2 4 x).1 2 4 = x ∧ (pI h 2 4 x).1 2 5 = nI k.2.1 := ⟨pI_eq, (pI_ne 2 5 (Or.inr (by decide))).trans c.2.1.2.1⟩
/-- cells of the net alone are other -/
theorem CRd.net {h h' : PH} {n : Nat} {B : Nat → Nat} {k : TK} {t t' : NT} {nm nm' : NMS} (c : CRd h n B k t nm) (f : Fr (fun y => 3 ≤ y ∧ y < 13) h h') (nc : NetC h' 3 t') (na : NamC h' 3 t' nm') : CRd h' n B k t' nm' := by
  obtain ⟨c1, c2, c3, c4, c5⟩ := c
  have g2 := f 2 (by omega)
  have g1 := f 1 (by omega)
  refine ⟨?_, ?_, nc, na, by rw [g2.1]; exact c5⟩
  · unfold CB; rw [g2.1, g1.1]; exact c1
  · unfold CK; rw [g2.1, g2.2]; exact c2
theorem CRd.pf {h : PH} {n : Nat} {B : Nat → Nat} {k : TK} {t : NT} {nm : NMS} (c : CRd h n B k t nm) {j : Nat} (hj : 9 < j) (x : Int32) : CRd (pI h 2 j x) n B k t nm := by
  obtain ⟨c1, c2, c3, c4, c5⟩ := c
  have f : Fr (fun y => y = 2) h (pI h 2 j x) := Fr.rf.pI rfl
  have z : ∀ i, i ≤ 9 → (pI h 2 j x).1 2 i = h.1 2 i := fun i hi => pI_ne 2 i (Or.inr (by omega))
  refine ⟨⟨(z 1 (by omega)).trans c1.1, (z 2 (by omega)).trans c1.2.1, fun i hi => by rw [(f 1 (by decide)).1]; exact c1.2.2 i hi⟩, ⟨(z 6 (by omega)).trans c2.1, (z 5 (by omega)).trans c2.2.1, (z 3 (by omega)).trans c2.2.2.1, c2.2.2.2.1, fun q => (z 8 (by omega)).trans (c2.2.2.2.2 q)⟩, c3.fr f (fun j hj q => by omega), fun j hj => c4 j hj, (z 4 (by omega)).trans c5⟩
theorem fr_J {h : PH} {t : NT} {w : Int64} {d x : Int32} : Fr (fun y => 3 ≤ y ∧ y < 13) h (pI (pI (pI (pL h 4 (NT.J t) w) 5 (NT.J t) d) 6 (NT.J t) x) 3 0 (nI (NT.J t + 1))) := (((Fr.rf.pL ⟨by omega, by omega⟩).pI ⟨by omega, by omega⟩).pI ⟨by omega, by omega⟩).pI ⟨by omega, by omega⟩
theorem CRd.addJ {h : PH} {n : Nat} {B : Nat → Nat} {k : TK} {t : NT} {nm : NMS} (c : CRd h n B k t nm) (L : List Nat) (d x : Int32) : CRd (pI (pI (pI (pL h 4 (NT.J t) (lN (packN L))) 5 (NT.J t) d) 6 (NT.J t) x) 3 0 (nI (NT.J t + 1))) n B k (adJ t d x) (fupd nm (NT.J t) L) := by
  refine c.net fr_J (net_adJ c.2.2.1 _ d x) (fun j hj => ?_)
  have hj' : j < NT.J t + 1 := hj
  show (pL h 4 (NT.J t) (lN (packN L))).2 4 j = _
  by_cases q : j = NT.J t
  · rw [q, fupd_s]; exact pL_eq
  · rw [fupd_n q, pL_ne 4 j (Or.inr q)]; exact c.2.2.2.1 j (by omega)
theorem CRd.wh {h : PH} {n : Nat} {B : Nat → Nat} {k : TK} {t : NT} {nm : NMS} (c : CRd h n B k t nm) (v : Int32) : CRd (pI h 3 2 v) n B k (setWh t v) nm := c.net (Fr.rf.pI ⟨by omega, by omega⟩) (c.2.2.1.wh v) (fun j hj => c.2.2.2.1 j hj)
theorem fr_E {h : PH} {t : NT} {kd : Int32} {a b : Nat} {r : Int32} : Fr (fun y => 3 ≤ y ∧ y < 13) h (pI (pI (pI (pI (pI (pI h 9 (NT.E t) kd) 7 (NT.E t) (nI a)) 8 (NT.E t) (nI b)) 10 (NT.E t) r) 11 (NT.E t) 0) 3 1 (nI (NT.E t + 1))) := (((((Fr.rf.pI ⟨by omega, by omega⟩).pI ⟨by omega, by omega⟩).pI ⟨by omega, by omega⟩).pI ⟨by omega, by omega⟩).pI ⟨by omega, by omega⟩).pI ⟨by omega, by omega⟩
theorem CRd.addE {h : PH} {n : Nat} {B : Nat → Nat} {k : TK} {t : NT} {nm : NMS} (c : CRd h n B k t nm) (kd : Int32) (a b : Nat) (r : Int32) : CRd (pI (pI (pI (pI (pI (pI h 9 (NT.E t) kd) 7 (NT.E t) (nI a)) 8 (NT.E t) (nI b)) 10 (NT.E t) r) 11 (NT.E t) 0) 3 1 (nI (NT.E t + 1))) n B k (adE t kd a b r) nm := c.net fr_E (net_adE c.2.2.1 kd a b r) (fun j hj => c.2.2.2.1 j hj)
theorem Fr.net3 {h h' : PH} (f : Fr (fun y => 3 ≤ y ∧ y < 13) h h') : FCr h h' := f.wk (fun y q => by omega)
set_option maxRecDepth 100000 in
set_option maxHeartbeats 4000000 in
theorem k_ends {h : PH} {n : Nat} {B : Nat → Nat} (ok : OKB n B) {k : TK} {t : NT} {nm : NMS} (c : CRd h n B k t nm) (g : TGd n B k) (ti : TI t) (no : nmOK t nm) : Con mX3_readEnds 4 [.ref 2] h (fun a h' => a = some (.int (b2i ((spEnds B n k t nm).1 = 0))) ∧ (((spEnds B n k t nm).1 = 0 → CRd h' n B (spEnds B n k t nm).2.1 t nm ∧ h'.1 2 10 = nI (spEnds B n k t nm).2.2.1 ∧ h'.1 2 11 = nI (spEnds B n k t nm).2.2.2) ∧ ((spEnds B n k t nm).1 ≠ 0 → h'.1 2 4 = (spEnds B n k t nm).1 ∧ h'.1 2 5 = nI (spEnds B n k t nm).2.1.2.1) ∧ FCr h h')) := by
  have hJ := ti.1
  have hE := ti.2.1
  have k1 : h.1 3 1 = nI (NT.E t) := c.2.2.1.2.1
  have g1 := g.nx.1
  have g2 := g1.nx.1
  refine Con.mk (by decide) ?_
  show RT _ _ 0 [some (.ref 2)] [] _ _
  by_cases h14 : NT.E t = 14
  · have e : (spEnds B n k t nm) = (4, k, 0, 0) := by unfold spEnds; rw [if_pos h14]
    rw [e]
    refine r_aload_0 dX3_readEnds_0 ?_
    refine r_getR (a := 3) dX3_readEnds_1 fl_X3_12 rfl rfl ?_
    refine r_getI dX3_readEnds_4 fl_X3_127 rfl ?_
    rw [k1]
    refine r_bipush (v := nI 14) dX3_readEnds_7 (by decide) ?_
    refine r_icmpN_lt 18 dX3_readEnds_9 (by decide) (by omega) (by omega) (fun c_9 => by omega) (fun c_9 => ?_)
    refine r_aload_0 dX3_readEnds_12 ?_
    refine r_iconst (v := 4) dX3_readEnds_13 (by decide) ?_
    refine r_cV1 mX3_blame dX3_readEnds_14 ml_X3_51 mo_X3_blame rfl (k_blame h 4) (by decide) ?_
    refine r_zret dX3_readEnds_17 rfl rfl ?_
    exact ⟨(by first | rfl | exact congrArg (fun x => some (Value.int x)) (b2i_f (show ¬ ((4 : Int32) = 0) by decide)).symm), fun q => absurd q (show ¬ ((4 : Int32) = 0) by decide), fun _ => c.bad 4, fc_b Fr.rf⟩
  · cases hj1 : jA B (nx B n k) t nm with
    | none =>
      have e : (spEnds B n k t nm) = (jFl B (nx B n k), nx B n k, 0, 0) := by unfold spEnds; rw [if_neg h14, hj1]
      have nf : jFl B (nx B n k) ≠ 0 := by unfold jFl; split <;> decide
      rw [e]
      refine r_aload_0 dX3_readEnds_0 ?_
      refine r_getR (a := 3) dX3_readEnds_1 fl_X3_12 rfl rfl ?_
      refine r_getI dX3_readEnds_4 fl_X3_127 rfl ?_
      rw [k1]
      refine r_bipush (v := nI 14) dX3_readEnds_7 (by decide) ?_
      refine r_icmpN_lt 18 dX3_readEnds_9 (by decide) (by omega) (by omega) (fun c_9 => ?_) (fun c_9 => by omega)
      refine r_aload_0 dX3_readEnds_18 ?_
      refine r_cWQ0 mX3_readToken dX3_readEnds_19 ml_X3_35 mo_X3_readToken rfl (k_readToken ok c.1 g.1.2.1 c.2.1.2.2.1) (by decide) (fun h2 p2 => ?_)
      have c2 := c.tok p2
      have cj : ConF mX3_jointAtHand 2 [.ref 2] h2 (some (.int (-1))) (pI h2 2 4 (jFl B (nx B n k))) := by have q := k_jah c2 g1 hJ no; rw [hj1, if_pos rfl] at q; exact q
      refine r_aload_0 dX3_readEnds_22 ?_
      refine r_aload_0 dX3_readEnds_23 ?_
      refine r_cV0 mX3_jointAtHand dX3_readEnds_24 ml_X3_130 mo_X3_jointAtHand rfl cj (by decide) ?_
      refine r_putI dX3_readEnds_27 fl_X3_113 rfl rfl rfl ?_
      refine r_aload_0 dX3_readEnds_30 ?_
      refine r_getI dX3_readEnds_31 fl_X3_113 rfl ?_
      rw [pI_eq]
      refine r_iconst (v := (-1)) dX3_readEnds_34 (by decide) ?_
      refine r_icmp_ne 40 dX3_readEnds_35 (by decide) (fun c_35 => by exact absurd rfl c_35) (fun c_35 => ?_)
      refine r_iconst (v := 0) dX3_readEnds_38 (by decide) ?_
      refine r_zret dX3_readEnds_39 rfl rfl ?_
      refine ⟨(by first | rfl | exact congrArg (fun x => some (Value.int x)) (b2i_f nf).symm), fun q => absurd q nf, fun _ => ⟨(pI_ne 2 4 (Or.inr (by decide))).trans pI_eq, (pI_ne 2 5 (Or.inr (by decide))).trans ((c2.bad _).2)⟩, ?_⟩
      exact Fr.pI (fc_b p2.2.fc) ⟨by omega, by omega⟩
    | some a =>
      have ha : a < NT.J t := by unfold jA at hj1; split at hj1; exact jH_lt hj1; cases hj1
      cases hj2 : jA B (nx B n (nx B n k)) t nm with
      | none =>
        have e : (spEnds B n k t nm) = (jFl B (nx B n (nx B n k)), nx B n (nx B n k), 0, 0) := by unfold spEnds; rw [if_neg h14, hj1]; simp only; rw [hj2]
        have nf : jFl B (nx B n (nx B n k)) ≠ 0 := by unfold jFl; split <;> decide
        rw [e]
        refine r_aload_0 dX3_readEnds_0 ?_
        refine r_getR (a := 3) dX3_readEnds_1 fl_X3_12 rfl rfl ?_
        refine r_getI dX3_readEnds_4 fl_X3_127 rfl ?_
        rw [k1]
        refine r_bipush (v := nI 14) dX3_readEnds_7 (by decide) ?_
        refine r_icmpN_lt 18 dX3_readEnds_9 (by decide) (by omega) (by omega) (fun c_9 => ?_) (fun c_9 => by omega)
        refine r_aload_0 dX3_readEnds_18 ?_
        refine r_cWQ0 mX3_readToken dX3_readEnds_19 ml_X3_35 mo_X3_readToken rfl (k_readToken ok c.1 g.1.2.1 c.2.1.2.2.1) (by decide) (fun h2 p2 => ?_)
        have c2 := c.tok p2
        have cj : ConF mX3_jointAtHand 2 [.ref 2] h2 (some (.int (nI a))) h2 := by have q := k_jah c2 g1 hJ no; rw [hj1, if_neg (fun q => by cases q)] at q; exact q
        refine r_aload_0 dX3_readEnds_22 ?_
        refine r_aload_0 dX3_readEnds_23 ?_
        refine r_cV0 mX3_jointAtHand dX3_readEnds_24 ml_X3_130 mo_X3_jointAtHand rfl cj (by decide) ?_
        refine r_putI dX3_readEnds_27 fl_X3_113 rfl rfl rfl ?_
        refine r_aload_0 dX3_readEnds_30 ?_
        refine r_getI dX3_readEnds_31 fl_X3_113 rfl ?_
        rw [pI_eq]
        refine r_iconst (v := (-1)) dX3_readEnds_34 (by decide) ?_
        refine r_icmp_ne 40 dX3_readEnds_35 (by decide) (fun c_35 => ?_) (fun c_35 => by exact absurd c_35 (nI_ne_m1 (by omega)))
        refine r_aload_0 dX3_readEnds_40 ?_
        refine r_cWQ0 mX3_readToken dX3_readEnds_41 ml_X3_35 mo_X3_readToken rfl (k_readToken ok (c2.pf (j := 10) (by decide) (nI a)).1 g1.1.2.1 (c2.pf (j := 10) (by decide) (nI a)).2.1.2.2.1) (by decide) (fun h3 p3 => ?_)
        have c3 := (c2.pf (j := 10) (by decide) (nI a)).tok p3
        have e10 : h3.1 2 10 = nI a := (p3.2.1 10 (by decide) (by decide) (by decide) (by decide)).trans pI_eq
        have cj2 : ConF mX3_jointAtHand 2 [.ref 2] h3 (some (.int (-1))) (pI h3 2 4 (jFl B (nx B n (nx B n k)))) := by have q := k_jah c3 g2 hJ no; rw [hj2, if_pos rfl] at q; exact q
        have ff : FCr h h3 := (Fr.pI p2.2.fc ⟨by omega, by omega⟩ : FCr h (pI h2 2 10 (nI a))).tr p3.2.fc
        refine r_aload_0 dX3_readEnds_44 ?_
        refine r_aload_0 dX3_readEnds_45 ?_
        refine r_cV0 mX3_jointAtHand dX3_readEnds_46 ml_X3_130 mo_X3_jointAtHand rfl cj2 (by decide) ?_
        refine r_putI dX3_readEnds_49 fl_X3_116 rfl rfl rfl ?_
        refine r_aload_0 dX3_readEnds_52 ?_
        refine r_getI dX3_readEnds_53 fl_X3_116 rfl ?_
        rw [pI_eq]
        refine r_iconst (v := (-1)) dX3_readEnds_56 (by decide) ?_
        refine r_icmp_ne 62 dX3_readEnds_57 (by decide) (fun c_57 => by exact absurd rfl c_57) (fun c_57 => ?_)
        refine r_iconst (v := 0) dX3_readEnds_60 (by decide) ?_
        refine r_zret dX3_readEnds_61 rfl rfl ?_
        refine ⟨(by first | rfl | exact congrArg (fun x => some (Value.int x)) (b2i_f nf).symm), fun q => absurd q nf, fun _ => ⟨(pI_ne 2 4 (Or.inr (by decide))).trans pI_eq, (pI_ne 2 5 (Or.inr (by decide))).trans ((c3.bad _).2)⟩, ?_⟩
        exact Fr.pI (fc_b ff) ⟨by omega, by omega⟩
      | some b =>
        have hb : b < NT.J t := by unfold jA at hj2; split at hj2; exact jH_lt hj2; cases hj2
        by_cases hab : b = a
        · have e : (spEnds B n k t nm) = (3, nx B n (nx B n k), 0, 0) := by unfold spEnds; rw [if_neg h14, hj1]; simp only; rw [hj2]; simp only; rw [if_pos hab]
          rw [e]
          refine r_aload_0 dX3_readEnds_0 ?_
          refine r_getR (a := 3) dX3_readEnds_1 fl_X3_12 rfl rfl ?_
          refine r_getI dX3_readEnds_4 fl_X3_127 rfl ?_
          rw [k1]
          refine r_bipush (v := nI 14) dX3_readEnds_7 (by decide) ?_
          refine r_icmpN_lt 18 dX3_readEnds_9 (by decide) (by omega) (by omega) (fun c_9 => ?_) (fun c_9 => by omega)
          refine r_aload_0 dX3_readEnds_18 ?_
          refine r_cWQ0 mX3_readToken dX3_readEnds_19 ml_X3_35 mo_X3_readToken rfl (k_readToken ok c.1 g.1.2.1 c.2.1.2.2.1) (by decide) (fun h2 p2 => ?_)
          have c2 := c.tok p2
          have cj : ConF mX3_jointAtHand 2 [.ref 2] h2 (some (.int (nI a))) h2 := by have q := k_jah c2 g1 hJ no; rw [hj1, if_neg (fun q => by cases q)] at q; exact q
          refine r_aload_0 dX3_readEnds_22 ?_
          refine r_aload_0 dX3_readEnds_23 ?_
          refine r_cV0 mX3_jointAtHand dX3_readEnds_24 ml_X3_130 mo_X3_jointAtHand rfl cj (by decide) ?_
          refine r_putI dX3_readEnds_27 fl_X3_113 rfl rfl rfl ?_
          refine r_aload_0 dX3_readEnds_30 ?_
          refine r_getI dX3_readEnds_31 fl_X3_113 rfl ?_
          rw [pI_eq]
          refine r_iconst (v := (-1)) dX3_readEnds_34 (by decide) ?_
          refine r_icmp_ne 40 dX3_readEnds_35 (by decide) (fun c_35 => ?_) (fun c_35 => by exact absurd c_35 (nI_ne_m1 (by omega)))
          refine r_aload_0 dX3_readEnds_40 ?_
          refine r_cWQ0 mX3_readToken dX3_readEnds_41 ml_X3_35 mo_X3_readToken rfl (k_readToken ok (c2.pf (j := 10) (by decide) (nI a)).1 g1.1.2.1 (c2.pf (j := 10) (by decide) (nI a)).2.1.2.2.1) (by decide) (fun h3 p3 => ?_)
          have c3 := (c2.pf (j := 10) (by decide) (nI a)).tok p3
          have e10 : h3.1 2 10 = nI a := (p3.2.1 10 (by decide) (by decide) (by decide) (by decide)).trans pI_eq
          have cj2 : ConF mX3_jointAtHand 2 [.ref 2] h3 (some (.int (nI b))) h3 := by have q := k_jah c3 g2 hJ no; rw [hj2, if_neg (fun q => by cases q)] at q; exact q
          have ff : FCr h h3 := (Fr.pI p2.2.fc ⟨by omega, by omega⟩ : FCr h (pI h2 2 10 (nI a))).tr p3.2.fc
          refine r_aload_0 dX3_readEnds_44 ?_
          refine r_aload_0 dX3_readEnds_45 ?_
          refine r_cV0 mX3_jointAtHand dX3_readEnds_46 ml_X3_130 mo_X3_jointAtHand rfl cj2 (by decide) ?_
          refine r_putI dX3_readEnds_49 fl_X3_116 rfl rfl rfl ?_
          refine r_aload_0 dX3_readEnds_52 ?_
          refine r_getI dX3_readEnds_53 fl_X3_116 rfl ?_
          rw [pI_eq]
          refine r_iconst (v := (-1)) dX3_readEnds_56 (by decide) ?_
          refine r_icmp_ne 62 dX3_readEnds_57 (by decide) (fun c_57 => ?_) (fun c_57 => by exact absurd c_57 (nI_ne_m1 (by omega)))
          refine r_aload_0 dX3_readEnds_62 ?_
          refine r_getI dX3_readEnds_63 fl_X3_116 rfl ?_
          rw [pI_eq]
          refine r_aload_0 dX3_readEnds_66 ?_
          refine r_getI dX3_readEnds_67 fl_X3_113 rfl ?_
          rw [show (pI h3 2 11 (nI b)).1 2 10 = nI a from (pI_ne 2 10 (Or.inr (by decide))).trans e10]
          refine r_icmpN_ne 79 dX3_readEnds_70 (by decide) (by omega) (by omega) (fun c_70 => by omega) (fun c_70 => ?_)
          refine r_aload_0 dX3_readEnds_73 ?_
          refine r_iconst (v := 3) dX3_readEnds_74 (by decide) ?_
          refine r_cV1 mX3_blame dX3_readEnds_75 ml_X3_51 mo_X3_blame rfl (k_blame _ 3) (by decide) ?_
          refine r_zret dX3_readEnds_78 rfl rfl ?_
          exact ⟨(by first | rfl | exact congrArg (fun x => some (Value.int x)) (b2i_f (show ¬ ((3 : Int32) = 0) by decide)).symm), fun q => absurd q (show ¬ ((3 : Int32) = 0) by decide), fun _ => (c3.pf (j := 11) (by decide) (nI b)).bad 3, fc_b (Fr.pI ff ⟨by omega, by omega⟩)⟩
        · have e : (spEnds B n k t nm) = (0, nx B n (nx B n (nx B n k)), a, b) := by unfold spEnds; rw [if_neg h14, hj1]; simp only; rw [hj2]; simp only; rw [if_neg hab]
          rw [e]
          refine r_aload_0 dX3_readEnds_0 ?_
          refine r_getR (a := 3) dX3_readEnds_1 fl_X3_12 rfl rfl ?_
          refine r_getI dX3_readEnds_4 fl_X3_127 rfl ?_
          rw [k1]
          refine r_bipush (v := nI 14) dX3_readEnds_7 (by decide) ?_
          refine r_icmpN_lt 18 dX3_readEnds_9 (by decide) (by omega) (by omega) (fun c_9 => ?_) (fun c_9 => by omega)
          refine r_aload_0 dX3_readEnds_18 ?_
          refine r_cWQ0 mX3_readToken dX3_readEnds_19 ml_X3_35 mo_X3_readToken rfl (k_readToken ok c.1 g.1.2.1 c.2.1.2.2.1) (by decide) (fun h2 p2 => ?_)
          have c2 := c.tok p2
          have cj : ConF mX3_jointAtHand 2 [.ref 2] h2 (some (.int (nI a))) h2 := by have q := k_jah c2 g1 hJ no; rw [hj1, if_neg (fun q => by cases q)] at q; exact q
          refine r_aload_0 dX3_readEnds_22 ?_
          refine r_aload_0 dX3_readEnds_23 ?_
          refine r_cV0 mX3_jointAtHand dX3_readEnds_24 ml_X3_130 mo_X3_jointAtHand rfl cj (by decide) ?_
          refine r_putI dX3_readEnds_27 fl_X3_113 rfl rfl rfl ?_
          refine r_aload_0 dX3_readEnds_30 ?_
          refine r_getI dX3_readEnds_31 fl_X3_113 rfl ?_
          rw [pI_eq]
          refine r_iconst (v := (-1)) dX3_readEnds_34 (by decide) ?_
          refine r_icmp_ne 40 dX3_readEnds_35 (by decide) (fun c_35 => ?_) (fun c_35 => by exact absurd c_35 (nI_ne_m1 (by omega)))
          refine r_aload_0 dX3_readEnds_40 ?_
          refine r_cWQ0 mX3_readToken dX3_readEnds_41 ml_X3_35 mo_X3_readToken rfl (k_readToken ok (c2.pf (j := 10) (by decide) (nI a)).1 g1.1.2.1 (c2.pf (j := 10) (by decide) (nI a)).2.1.2.2.1) (by decide) (fun h3 p3 => ?_)
          have c3 := (c2.pf (j := 10) (by decide) (nI a)).tok p3
          have e10 : h3.1 2 10 = nI a := (p3.2.1 10 (by decide) (by decide) (by decide) (by decide)).trans pI_eq
          have cj2 : ConF mX3_jointAtHand 2 [.ref 2] h3 (some (.int (nI b))) h3 := by have q := k_jah c3 g2 hJ no; rw [hj2, if_neg (fun q => by cases q)] at q; exact q
          have ff : FCr h h3 := (Fr.pI p2.2.fc ⟨by omega, by omega⟩ : FCr h (pI h2 2 10 (nI a))).tr p3.2.fc
          refine r_aload_0 dX3_readEnds_44 ?_
          refine r_aload_0 dX3_readEnds_45 ?_
          refine r_cV0 mX3_jointAtHand dX3_readEnds_46 ml_X3_130 mo_X3_jointAtHand rfl cj2 (by decide) ?_
          refine r_putI dX3_readEnds_49 fl_X3_116 rfl rfl rfl ?_
          refine r_aload_0 dX3_readEnds_52 ?_
          refine r_getI dX3_readEnds_53 fl_X3_116 rfl ?_
          rw [pI_eq]
          refine r_iconst (v := (-1)) dX3_readEnds_56 (by decide) ?_
          refine r_icmp_ne 62 dX3_readEnds_57 (by decide) (fun c_57 => ?_) (fun c_57 => by exact absurd c_57 (nI_ne_m1 (by omega)))
          refine r_aload_0 dX3_readEnds_62 ?_
          refine r_getI dX3_readEnds_63 fl_X3_116 rfl ?_
          rw [pI_eq]
          refine r_aload_0 dX3_readEnds_66 ?_
          refine r_getI dX3_readEnds_67 fl_X3_113 rfl ?_
          rw [show (pI h3 2 11 (nI b)).1 2 10 = nI a from (pI_ne 2 10 (Or.inr (by decide))).trans e10]
          refine r_icmpN_ne 79 dX3_readEnds_70 (by decide) (by omega) (by omega) (fun c_70 => ?_) (fun c_70 => by omega)
          refine r_aload_0 dX3_readEnds_79 ?_
          refine r_cWQ0 mX3_readToken dX3_readEnds_80 ml_X3_35 mo_X3_readToken rfl (k_readToken ok (c3.pf (j := 11) (by decide) (nI b)).1 g2.1.2.1 (c3.pf (j := 11) (by decide) (nI b)).2.1.2.2.1) (by decide) (fun h4 p4 => ?_)
          have c4 := (c3.pf (j := 11) (by decide) (nI b)).tok p4
          refine r_iconst (v := 1) dX3_readEnds_83 (by decide) ?_
          refine r_zret dX3_readEnds_84 rfl rfl ?_
          refine ⟨congrArg (fun x => some (Value.int x)) (b2i_t rfl).symm, fun _ => ⟨c4, ?_, ?_⟩, fun q => absurd rfl q, (Fr.pI ff ⟨by omega, by omega⟩ : FCr h (pI h3 2 11 (nI b))).tr p4.2.fc⟩
          · rw [p4.2.1 10 (by decide) (by decide) (by decide) (by decide), pI_ne 2 10 (Or.inr (by decide))]; exact e10
          · rw [p4.2.1 11 (by decide) (by decide) (by decide) (by decide)]; exact pI_eq

set_option maxRecDepth 100000 in
set_option maxHeartbeats 4000000 in
theorem k_well {h : PH} {n : Nat} {B : Nat → Nat} (ok : OKB n B) {k : TK} {t : NT} {nm : NMS} (c : CRd h n B k t nm) (g : TGd n B k) (ti : TI t) (no : nmOK t nm) (h9 : NT.J t < 9) : Con mX3_readWell 5 [.ref 2] h (fun a h' => a = some (.int (b2i ((spWell B n k t nm).1 = 0))) ∧ COut h h' n B (spWell B n k t nm)) := by
  have hJ := ti.1
  obtain ⟨kc0, kc1, kc2, kc3, kc4, kc5⟩ := kc_all
  have g1 := g.nx.1
  have g2 := g1.nx.1
  refine Con.mk (by decide) ?_
  show RT _ _ 0 [some (.ref 2)] [] _ _
  by_cases hw : k.1 = 1 ∧ wd B k = kwL 0
  · by_cases hn : nF B (nx B n k) t nm = 0
    · by_cases hv : wF B (nx B n (nx B n k)) 0 999 = 0
      · have e : spWell B n k t nm = (0, nx B n (nx B n (nx B n k)), adJ (setWh t (wv B (nx B n (nx B n k)))) 0 0, fupd nm (NT.J t) (wd B (nx B n k))) := by unfold spWell; rw [if_pos hw, if_pos hn, if_pos hv]
        rw [e]
        have hv2 := (wF_0 hv).1
        refine r_aload_0 dX3_readWell_0 ?_
        refine r_ldc2 dX3_readWell_1 ks_X3_61 ?_
        refine r_cVQ1 mX3_takeWord dX3_readWell_4 ml_X3_63 mo_X3_takeWord rfl (k_tw ok c g (i := 0) (by decide) kc0) (by decide) (fun h2 p2 => ?_)
        obtain ⟨c2, f2⟩ := p2.1 hw
        rw [b2i_t hw]
        refine r_if_eq 28 dX3_readWell_7 (by decide) (fun c_7 => by exact absurd c_7 (by decide)) (fun c_7 => ?_)
        refine r_aload_0 dX3_readWell_10 ?_
        refine r_cVQ0 mX3_takeNewName dX3_readWell_11 ml_X3_67 mo_X3_takeNewName rfl (k_new ok c2 g1 hJ no) (by decide) (fun h3 p3 => ?_)
        obtain ⟨c3, e9, f3⟩ := p3.1 hn
        have cw := k_within c3.2.1 g2 0 999
        rw [b2i_t hv, if_pos hv] at cw
        rw [b2i_t hn]
        refine r_if_eq 28 dX3_readWell_14 (by decide) (fun c_14 => by exact absurd c_14 (by decide)) (fun c_14 => ?_)
        refine r_aload_0 dX3_readWell_17 ?_
        refine r_iconst (v := 0) dX3_readWell_18 (by decide) ?_
        refine r_sipush (v := 999) dX3_readWell_19 (by decide) ?_
        refine r_cV2 mX3_isWholeWithin dX3_readWell_22 ml_X3_70 mo_X3_isWholeWithin rfl cw (by decide) ?_
        refine r_if_ne 30 dX3_readWell_25 (by decide) (fun c_25 => ?_) (fun c_25 => by exact absurd c_25 (by decide))
        refine r_aload_0 dX3_readWell_30 ?_
        refine r_getR (a := 3) dX3_readWell_31 fl_X3_12 rfl rfl ?_
        refine r_aload_0 dX3_readWell_34 ?_
        refine r_getI dX3_readWell_35 fl_X3_74 rfl ?_
        rw [c3.2.1.2.2.2.2 hv2]
        refine r_putI dX3_readWell_38 fl_X3_77 rfl rfl rfl ?_
        refine r_aload_0 dX3_readWell_41 ?_
        refine r_getR (a := 3) dX3_readWell_42 fl_X3_12 rfl rfl ?_
        refine r_aload_0 dX3_readWell_45 ?_
        refine r_getL dX3_readWell_46 fl_X3_80 rfl ?_
        rw [show (pI h3 3 2 (wv B (nx B n (nx B n k)))).2 2 9 = lN (packN (wd B (nx B n k))) from e9]
        refine r_iconst (v := 0) dX3_readWell_49 (by decide) ?_
        refine r_iconst (v := 0) dX3_readWell_50 (by decide) ?_
        refine r_cW3 mX2_addJoint dX3_readWell_51 ml_X3_84 mo_X2_addJoint rfl (k_addJ (t := setWh t (wv B (nx B n (nx B n k)))) (c3.wh _).2.2.1.1 h9 _ 0 0) (by decide) ?_
        refine r_aload_0 dX3_readWell_54 ?_
        refine r_cWQ0 mX3_readToken dX3_readWell_55 ml_X3_35 mo_X3_readToken rfl (k_readToken ok ((c3.wh (wv B (nx B n (nx B n k)))).addJ (wd B (nx B n k)) 0 0).1 g2.1.2.1 ((c3.wh (wv B (nx B n (nx B n k)))).addJ (wd B (nx B n k)) 0 0).2.1.2.2.1) (by decide) (fun h4 p4 => ?_)
        have c4 := ((c3.wh (wv B (nx B n (nx B n k)))).addJ (wd B (nx B n k)) 0 0).tok p4
        refine r_iconst (v := 1) dX3_readWell_58 (by decide) ?_
        refine r_zret dX3_readWell_59 rfl rfl ?_
        exact ⟨congrArg (fun x => some (Value.int x)) (b2i_t rfl).symm, fun _ => c4, fun q => absurd rfl q, ((f2.fc.tr f3).tr ((Fr.rf.pI ⟨by omega, by omega⟩ : FCr h3 (pI h3 3 2 (wv B (nx B n (nx B n k))))).tr (fr_J (t := setWh t (wv B (nx B n (nx B n k)))) (w := lN (packN (wd B (nx B n k)))) (d := 0) (x := 0)).net3)).tr p4.2.fc⟩
      · have e : spWell B n k t nm = (wF B (nx B n (nx B n k)) 0 999, nx B n (nx B n k), t, nm) := by unfold spWell; rw [if_pos hw, if_pos hn, if_neg hv]
        rw [e]
        refine r_aload_0 dX3_readWell_0 ?_
        refine r_ldc2 dX3_readWell_1 ks_X3_61 ?_
        refine r_cVQ1 mX3_takeWord dX3_readWell_4 ml_X3_63 mo_X3_takeWord rfl (k_tw ok c g (i := 0) (by decide) kc0) (by decide) (fun h2 p2 => ?_)
        obtain ⟨c2, f2⟩ := p2.1 hw
        rw [b2i_t hw]
        refine r_if_eq 28 dX3_readWell_7 (by decide) (fun c_7 => by exact absurd c_7 (by decide)) (fun c_7 => ?_)
        refine r_aload_0 dX3_readWell_10 ?_
        refine r_cVQ0 mX3_takeNewName dX3_readWell_11 ml_X3_67 mo_X3_takeNewName rfl (k_new ok c2 g1 hJ no) (by decide) (fun h3 p3 => ?_)
        obtain ⟨c3, e9, f3⟩ := p3.1 hn
        have cw := k_within c3.2.1 g2 0 999
        rw [b2i_f hv, if_neg hv] at cw
        rw [b2i_t hn]
        refine r_if_eq 28 dX3_readWell_14 (by decide) (fun c_14 => by exact absurd c_14 (by decide)) (fun c_14 => ?_)
        refine r_aload_0 dX3_readWell_17 ?_
        refine r_iconst (v := 0) dX3_readWell_18 (by decide) ?_
        refine r_sipush (v := 999) dX3_readWell_19 (by decide) ?_
        refine r_cV2 mX3_isWholeWithin dX3_readWell_22 ml_X3_70 mo_X3_isWholeWithin rfl cw (by decide) ?_
        refine r_if_ne 30 dX3_readWell_25 (by decide) (fun c_25 => by exact absurd rfl c_25) (fun c_25 => ?_)
        refine r_iconst (v := 0) dX3_readWell_28 (by decide) ?_
        refine r_zret dX3_readWell_29 rfl rfl ?_
        exact ⟨(by first | rfl | exact congrArg (fun x => some (Value.int x)) (b2i_f hv).symm), fun q => absurd q hv, fun _ => c3.bad _, fc_b (f2.fc.tr f3)⟩
    · have e : spWell B n k t nm = (nF B (nx B n k) t nm, nx B n k, t, nm) := by unfold spWell; rw [if_pos hw, if_neg hn]
      rw [e]
      refine r_aload_0 dX3_readWell_0 ?_
      refine r_ldc2 dX3_readWell_1 ks_X3_61 ?_
      refine r_cVQ1 mX3_takeWord dX3_readWell_4 ml_X3_63 mo_X3_takeWord rfl (k_tw ok c g (i := 0) (by decide) kc0) (by decide) (fun h2 p2 => ?_)
      obtain ⟨c2, f2⟩ := p2.1 hw
      rw [b2i_t hw]
      refine r_if_eq 28 dX3_readWell_7 (by decide) (fun c_7 => by exact absurd c_7 (by decide)) (fun c_7 => ?_)
      refine r_aload_0 dX3_readWell_10 ?_
      refine r_cVQ0 mX3_takeNewName dX3_readWell_11 ml_X3_67 mo_X3_takeNewName rfl (k_new ok c2 g1 hJ no) (by decide) (fun h3 p3 => ?_)
      have e3 := p3.2 hn
      rw [b2i_f hn]
      refine r_if_eq 28 dX3_readWell_14 (by decide) (fun c_14 => ?_) (fun c_14 => by exact absurd rfl c_14)
      refine r_iconst (v := 0) dX3_readWell_28 (by decide) ?_
      refine r_zret dX3_readWell_29 rfl rfl ?_
      rw [e3]
      exact ⟨(by first | rfl | exact congrArg (fun x => some (Value.int x)) (b2i_f hn).symm), fun q => absurd q hn, fun _ => c2.bad _, fc_b f2.fc⟩
  · have e : spWell B n k t nm = (1, k, t, nm) := by unfold spWell; rw [if_neg hw]
    rw [e]
    refine r_aload_0 dX3_readWell_0 ?_
    refine r_ldc2 dX3_readWell_1 ks_X3_61 ?_
    refine r_cVQ1 mX3_takeWord dX3_readWell_4 ml_X3_63 mo_X3_takeWord rfl (k_tw ok c g (i := 0) (by decide) kc0) (by decide) (fun h2 p2 => ?_)
    have e2 := p2.2 hw
    rw [b2i_f hw]
    refine r_if_eq 28 dX3_readWell_7 (by decide) (fun c_7 => ?_) (fun c_7 => by exact absurd rfl c_7)
    refine r_iconst (v := 0) dX3_readWell_28 (by decide) ?_
    refine r_zret dX3_readWell_29 rfl rfl ?_
    rw [e2]
    exact ⟨(by first | rfl | exact congrArg (fun x => some (Value.int x)) (b2i_f (show ¬ ((1 : Int32) = 0) by decide)).symm), fun q => absurd q (show ¬ ((1 : Int32) = 0) by decide), fun _ => c.bad _, fc_b Fr.rf⟩

set_option maxRecDepth 100000 in
set_option maxHeartbeats 4000000 in
theorem k_joint {h : PH} {n : Nat} {B : Nat → Nat} (ok : OKB n B) {k : TK} {t : NT} {nm : NMS} (c : CRd h n B k t nm) (g : TGd n B k) (ti : TI t) (no : nmOK t nm) : Con mX3_readJoint 5 [.ref 2] h (fun a h' => a = some (.int (b2i ((spJoint B n k t nm).1 = 0))) ∧ COut h h' n B (spJoint B n k t nm)) := by
  have hJ := ti.1
  obtain ⟨kc0, kc1, kc2, kc3, kc4, kc5⟩ := kc_all
  have k0 : h.1 3 0 = nI (NT.J t) := c.2.2.1.1
  have g1 := g.nx.1
  have g2 := g1.nx.1
  have g3 := g2.nx.1
  have g4 := g3.nx.1
  refine Con.mk (by decide) ?_
  show RT _ _ 0 [some (.ref 2), none] [] _ _
  by_cases h9 : NT.J t = 9
  · have e : spJoint B n k t nm = (4, k, t, nm) := by unfold spJoint; rw [if_pos h9]
    rw [e]
    refine r_aload_0 dX3_readJoint_0 ?_
    refine r_getR (a := 3) dX3_readJoint_1 fl_X3_12 rfl rfl ?_
    refine r_getI dX3_readJoint_4 fl_X3_55 rfl ?_
    rw [k0]
    refine r_bipush (v := nI 9) dX3_readJoint_7 (by decide) ?_
    refine r_icmpN_lt 18 dX3_readJoint_9 (by decide) (by omega) (by omega) (fun c_9 => by omega) (fun c_9 => ?_)
    refine r_aload_0 dX3_readJoint_12 ?_
    refine r_iconst (v := 4) dX3_readJoint_13 (by decide) ?_
    refine r_cV1 mX3_blame dX3_readJoint_14 ml_X3_51 mo_X3_blame rfl (k_blame h 4) (by decide) ?_
    refine r_zret dX3_readJoint_17 rfl rfl ?_
    exact ⟨(by first | rfl | exact congrArg (fun x => some (Value.int x)) (b2i_f (show ¬ ((4 : Int32) = 0) by decide)).symm), fun q => absurd q (show ¬ ((4 : Int32) = 0) by decide), fun _ => c.bad _, fc_b Fr.rf⟩
  · by_cases hn : nF B (nx B n k) t nm = 0
    · by_cases hv : wF B (nx B n (nx B n k)) 0 60 = 0
      · have hv2 := (wF_0 hv).1
        have eq0 : spJoint B n k t nm = spJ2 B n (wv B (nx B n (nx B n k))) (wd B (nx B n k)) (nx B n (nx B n (nx B n k))) t nm := by unfold spJoint; rw [if_neg h9, if_pos hn, if_pos hv]
        rw [eq0]
        by_cases ha : (nx B n (nx B n (nx B n k))).1 = 1 ∧ wd B (nx B n (nx B n (nx B n k))) = kwL 2
        · by_cases hz : wF B (nx B n (nx B n (nx B n (nx B n k)))) 0 300 = 0
          · have hz2 := (wF_0 hz).1
            have e : spJ2 B n (wv B (nx B n (nx B n k))) (wd B (nx B n k)) (nx B n (nx B n (nx B n k))) t nm = (0, nx B n (nx B n (nx B n (nx B n (nx B n k)))), adJ t (wv B (nx B n (nx B n k))) (wv B (nx B n (nx B n (nx B n (nx B n k))))), fupd nm (NT.J t) (wd B (nx B n k))) := by unfold spJ2; rw [if_pos ha, if_pos hz]
            rw [e]
            refine r_aload_0 dX3_readJoint_0 ?_
            refine r_getR (a := 3) dX3_readJoint_1 fl_X3_12 rfl rfl ?_
            refine r_getI dX3_readJoint_4 fl_X3_55 rfl ?_
            rw [k0]
            refine r_bipush (v := nI 9) dX3_readJoint_7 (by decide) ?_
            refine r_icmpN_lt 18 dX3_readJoint_9 (by decide) (by omega) (by omega) (fun c_9 => ?_) (fun c_9 => by omega)
            refine r_aload_0 dX3_readJoint_18 ?_
            refine r_cWQ0 mX3_readToken dX3_readJoint_19 ml_X3_35 mo_X3_readToken rfl (k_readToken ok c.1 g.1.2.1 c.2.1.2.2.1) (by decide) (fun h2 p2 => ?_)
            have c2 := c.tok p2
            refine r_aload_0 dX3_readJoint_22 ?_
            refine r_cVQ0 mX3_takeNewName dX3_readJoint_23 ml_X3_67 mo_X3_takeNewName rfl (k_new ok c2 g1 hJ no) (by decide) (fun h3 p3 => ?_)
            obtain ⟨c3, e9, f3⟩ := p3.1 hn
            have cw := k_within c3.2.1 g2 0 60
            rw [b2i_t hv, if_pos hv] at cw
            rw [b2i_t hn]
            refine r_if_eq 39 dX3_readJoint_26 (by decide) (fun c_26 => by exact absurd c_26 (by decide)) (fun c_26 => ?_)
            refine r_aload_0 dX3_readJoint_29 ?_
            refine r_iconst (v := 0) dX3_readJoint_30 (by decide) ?_
            refine r_bipush (v := 60) dX3_readJoint_31 (by decide) ?_
            refine r_cV2 mX3_isWholeWithin dX3_readJoint_33 ml_X3_70 mo_X3_isWholeWithin rfl cw (by decide) ?_
            refine r_if_ne 41 dX3_readJoint_36 (by decide) (fun c_36 => ?_) (fun c_36 => by exact absurd c_36 (by decide))
            refine r_aload_0 dX3_readJoint_41 ?_
            refine r_getI dX3_readJoint_42 fl_X3_74 rfl ?_
            rw [c3.2.1.2.2.2.2 hv2]
            refine r_istore_1 dX3_readJoint_45 ?_
            refine r_aload_0 dX3_readJoint_46 ?_
            refine r_cWQ0 mX3_readToken dX3_readJoint_47 ml_X3_35 mo_X3_readToken rfl (k_readToken ok c3.1 g2.1.2.1 c3.2.1.2.2.1) (by decide) (fun h4 p4 => ?_)
            have c4 := c3.tok p4
            have e9' : h4.2 2 9 = lN (packN (wd B (nx B n k))) := p4.2.2.1.trans e9
            refine r_aload_0 dX3_readJoint_50 ?_
            refine r_ldc2 dX3_readJoint_51 ks_X3_108 ?_
            refine r_cVQ1 mX3_takeWord dX3_readJoint_54 ml_X3_63 mo_X3_takeWord rfl (k_tw ok c4 g3 (i := 2) (by decide) kc2) (by decide) (fun h5 p5 => ?_)
            obtain ⟨c5, f5⟩ := p5.1 ha
            have e9'' : h5.2 2 9 = lN (packN (wd B (nx B n k))) := f5.2.1.trans e9'
            have cz := k_within c5.2.1 g4 0 300
            rw [b2i_t hz, if_pos hz] at cz
            rw [b2i_t ha]
            refine r_if_eq 71 dX3_readJoint_57 (by decide) (fun c_57 => by exact absurd c_57 (by decide)) (fun c_57 => ?_)
            refine r_aload_0 dX3_readJoint_60 ?_
            refine r_iconst (v := 0) dX3_readJoint_61 (by decide) ?_
            refine r_sipush (v := 300) dX3_readJoint_62 (by decide) ?_
            refine r_cV2 mX3_isWholeWithin dX3_readJoint_65 ml_X3_70 mo_X3_isWholeWithin rfl cz (by decide) ?_
            refine r_if_ne 73 dX3_readJoint_68 (by decide) (fun c_68 => ?_) (fun c_68 => by exact absurd c_68 (by decide))
            refine r_aload_0 dX3_readJoint_73 ?_
            refine r_getR (a := 3) dX3_readJoint_74 fl_X3_12 rfl rfl ?_
            refine r_aload_0 dX3_readJoint_77 ?_
            refine r_getL dX3_readJoint_78 fl_X3_80 rfl ?_
            rw [e9'']
            refine r_iload_1 dX3_readJoint_81 ?_
            refine r_aload_0 dX3_readJoint_82 ?_
            refine r_getI dX3_readJoint_83 fl_X3_74 rfl ?_
            rw [c5.2.1.2.2.2.2 hz2]
            refine r_cW3 mX2_addJoint dX3_readJoint_86 ml_X3_84 mo_X2_addJoint rfl (k_addJ c5.2.2.1.1 (by omega) _ _ _) (by decide) ?_
            refine r_aload_0 dX3_readJoint_89 ?_
            refine r_cWQ0 mX3_readToken dX3_readJoint_90 ml_X3_35 mo_X3_readToken rfl (k_readToken ok (c5.addJ (wd B (nx B n k)) (wv B (nx B n (nx B n k))) (wv B (nx B n (nx B n (nx B n (nx B n k)))))).1 g4.1.2.1 (c5.addJ (wd B (nx B n k)) (wv B (nx B n (nx B n k))) (wv B (nx B n (nx B n (nx B n (nx B n k)))))).2.1.2.2.1) (by decide) (fun h6 p6 => ?_)
            have c6 := (c5.addJ (wd B (nx B n k)) (wv B (nx B n (nx B n k))) (wv B (nx B n (nx B n (nx B n (nx B n k)))))).tok p6
            refine r_iconst (v := 1) dX3_readJoint_93 (by decide) ?_
            refine r_zret dX3_readJoint_94 rfl rfl ?_
            exact ⟨congrArg (fun x => some (Value.int x)) (b2i_t rfl).symm, fun _ => c6, fun q => absurd rfl q, (((((p2.2.fc.tr f3).tr p4.2.fc).tr f5.fc)).tr fr_J.net3).tr p6.2.fc⟩
          · have e : spJ2 B n (wv B (nx B n (nx B n k))) (wd B (nx B n k)) (nx B n (nx B n (nx B n k))) t nm = (wF B (nx B n (nx B n (nx B n (nx B n k)))) 0 300, (nx B n (nx B n (nx B n (nx B n k)))), t, nm) := by unfold spJ2; rw [if_pos ha, if_neg hz]
            rw [e]
            refine r_aload_0 dX3_readJoint_0 ?_
            refine r_getR (a := 3) dX3_readJoint_1 fl_X3_12 rfl rfl ?_
            refine r_getI dX3_readJoint_4 fl_X3_55 rfl ?_
            rw [k0]
            refine r_bipush (v := nI 9) dX3_readJoint_7 (by decide) ?_
            refine r_icmpN_lt 18 dX3_readJoint_9 (by decide) (by omega) (by omega) (fun c_9 => ?_) (fun c_9 => by omega)
            refine r_aload_0 dX3_readJoint_18 ?_
            refine r_cWQ0 mX3_readToken dX3_readJoint_19 ml_X3_35 mo_X3_readToken rfl (k_readToken ok c.1 g.1.2.1 c.2.1.2.2.1) (by decide) (fun h2 p2 => ?_)
            have c2 := c.tok p2
            refine r_aload_0 dX3_readJoint_22 ?_
            refine r_cVQ0 mX3_takeNewName dX3_readJoint_23 ml_X3_67 mo_X3_takeNewName rfl (k_new ok c2 g1 hJ no) (by decide) (fun h3 p3 => ?_)
            obtain ⟨c3, e9, f3⟩ := p3.1 hn
            have cw := k_within c3.2.1 g2 0 60
            rw [b2i_t hv, if_pos hv] at cw
            rw [b2i_t hn]
            refine r_if_eq 39 dX3_readJoint_26 (by decide) (fun c_26 => by exact absurd c_26 (by decide)) (fun c_26 => ?_)
            refine r_aload_0 dX3_readJoint_29 ?_
            refine r_iconst (v := 0) dX3_readJoint_30 (by decide) ?_
            refine r_bipush (v := 60) dX3_readJoint_31 (by decide) ?_
            refine r_cV2 mX3_isWholeWithin dX3_readJoint_33 ml_X3_70 mo_X3_isWholeWithin rfl cw (by decide) ?_
            refine r_if_ne 41 dX3_readJoint_36 (by decide) (fun c_36 => ?_) (fun c_36 => by exact absurd c_36 (by decide))
            refine r_aload_0 dX3_readJoint_41 ?_
            refine r_getI dX3_readJoint_42 fl_X3_74 rfl ?_
            rw [c3.2.1.2.2.2.2 hv2]
            refine r_istore_1 dX3_readJoint_45 ?_
            refine r_aload_0 dX3_readJoint_46 ?_
            refine r_cWQ0 mX3_readToken dX3_readJoint_47 ml_X3_35 mo_X3_readToken rfl (k_readToken ok c3.1 g2.1.2.1 c3.2.1.2.2.1) (by decide) (fun h4 p4 => ?_)
            have c4 := c3.tok p4
            have e9' : h4.2 2 9 = lN (packN (wd B (nx B n k))) := p4.2.2.1.trans e9
            refine r_aload_0 dX3_readJoint_50 ?_
            refine r_ldc2 dX3_readJoint_51 ks_X3_108 ?_
            refine r_cVQ1 mX3_takeWord dX3_readJoint_54 ml_X3_63 mo_X3_takeWord rfl (k_tw ok c4 g3 (i := 2) (by decide) kc2) (by decide) (fun h5 p5 => ?_)
            obtain ⟨c5, f5⟩ := p5.1 ha
            have e9'' : h5.2 2 9 = lN (packN (wd B (nx B n k))) := f5.2.1.trans e9'
            have cz := k_within c5.2.1 g4 0 300
            rw [b2i_f hz, if_neg hz] at cz
            rw [b2i_t ha]
            refine r_if_eq 71 dX3_readJoint_57 (by decide) (fun c_57 => by exact absurd c_57 (by decide)) (fun c_57 => ?_)
            refine r_aload_0 dX3_readJoint_60 ?_
            refine r_iconst (v := 0) dX3_readJoint_61 (by decide) ?_
            refine r_sipush (v := 300) dX3_readJoint_62 (by decide) ?_
            refine r_cV2 mX3_isWholeWithin dX3_readJoint_65 ml_X3_70 mo_X3_isWholeWithin rfl cz (by decide) ?_
            refine r_if_ne 73 dX3_readJoint_68 (by decide) (fun c_68 => by exact absurd rfl c_68) (fun c_68 => ?_)
            refine r_iconst (v := 0) dX3_readJoint_71 (by decide) ?_
            refine r_zret dX3_readJoint_72 rfl rfl ?_
            exact ⟨(by first | rfl | exact congrArg (fun x => some (Value.int x)) (b2i_f hz).symm), fun q => absurd q hz, fun _ => c5.bad _, fc_b ((((p2.2.fc.tr f3).tr p4.2.fc).tr f5.fc))⟩
        · have e : spJ2 B n (wv B (nx B n (nx B n k))) (wd B (nx B n k)) (nx B n (nx B n (nx B n k))) t nm = (1, (nx B n (nx B n (nx B n k))), t, nm) := by unfold spJ2; rw [if_neg ha]
          rw [e]
          refine r_aload_0 dX3_readJoint_0 ?_
          refine r_getR (a := 3) dX3_readJoint_1 fl_X3_12 rfl rfl ?_
          refine r_getI dX3_readJoint_4 fl_X3_55 rfl ?_
          rw [k0]
          refine r_bipush (v := nI 9) dX3_readJoint_7 (by decide) ?_
          refine r_icmpN_lt 18 dX3_readJoint_9 (by decide) (by omega) (by omega) (fun c_9 => ?_) (fun c_9 => by omega)
          refine r_aload_0 dX3_readJoint_18 ?_
          refine r_cWQ0 mX3_readToken dX3_readJoint_19 ml_X3_35 mo_X3_readToken rfl (k_readToken ok c.1 g.1.2.1 c.2.1.2.2.1) (by decide) (fun h2 p2 => ?_)
          have c2 := c.tok p2
          refine r_aload_0 dX3_readJoint_22 ?_
          refine r_cVQ0 mX3_takeNewName dX3_readJoint_23 ml_X3_67 mo_X3_takeNewName rfl (k_new ok c2 g1 hJ no) (by decide) (fun h3 p3 => ?_)
          obtain ⟨c3, e9, f3⟩ := p3.1 hn
          have cw := k_within c3.2.1 g2 0 60
          rw [b2i_t hv, if_pos hv] at cw
          rw [b2i_t hn]
          refine r_if_eq 39 dX3_readJoint_26 (by decide) (fun c_26 => by exact absurd c_26 (by decide)) (fun c_26 => ?_)
          refine r_aload_0 dX3_readJoint_29 ?_
          refine r_iconst (v := 0) dX3_readJoint_30 (by decide) ?_
          refine r_bipush (v := 60) dX3_readJoint_31 (by decide) ?_
          refine r_cV2 mX3_isWholeWithin dX3_readJoint_33 ml_X3_70 mo_X3_isWholeWithin rfl cw (by decide) ?_
          refine r_if_ne 41 dX3_readJoint_36 (by decide) (fun c_36 => ?_) (fun c_36 => by exact absurd c_36 (by decide))
          refine r_aload_0 dX3_readJoint_41 ?_
          refine r_getI dX3_readJoint_42 fl_X3_74 rfl ?_
          rw [c3.2.1.2.2.2.2 hv2]
          refine r_istore_1 dX3_readJoint_45 ?_
          refine r_aload_0 dX3_readJoint_46 ?_
          refine r_cWQ0 mX3_readToken dX3_readJoint_47 ml_X3_35 mo_X3_readToken rfl (k_readToken ok c3.1 g2.1.2.1 c3.2.1.2.2.1) (by decide) (fun h4 p4 => ?_)
          have c4 := c3.tok p4
          have e9' : h4.2 2 9 = lN (packN (wd B (nx B n k))) := p4.2.2.1.trans e9
          refine r_aload_0 dX3_readJoint_50 ?_
          refine r_ldc2 dX3_readJoint_51 ks_X3_108 ?_
          refine r_cVQ1 mX3_takeWord dX3_readJoint_54 ml_X3_63 mo_X3_takeWord rfl (k_tw ok c4 g3 (i := 2) (by decide) kc2) (by decide) (fun h5 p5 => ?_)
          have e5 := p5.2 ha
          rw [b2i_f ha]
          refine r_if_eq 71 dX3_readJoint_57 (by decide) (fun c_57 => ?_) (fun c_57 => by exact absurd rfl c_57)
          refine r_iconst (v := 0) dX3_readJoint_71 (by decide) ?_
          refine r_zret dX3_readJoint_72 rfl rfl ?_
          rw [e5]
          exact ⟨(by first | rfl | exact congrArg (fun x => some (Value.int x)) (b2i_f (show ¬ ((1 : Int32) = 0) by decide)).symm), fun q => absurd q (show ¬ ((1 : Int32) = 0) by decide), fun _ => c4.bad _, fc_b ((p2.2.fc.tr f3).tr p4.2.fc)⟩
      · have e : spJoint B n k t nm = (wF B (nx B n (nx B n k)) 0 60, (nx B n (nx B n k)), t, nm) := by unfold spJoint; rw [if_neg h9, if_pos hn, if_neg hv]
        rw [e]
        refine r_aload_0 dX3_readJoint_0 ?_
        refine r_getR (a := 3) dX3_readJoint_1 fl_X3_12 rfl rfl ?_
        refine r_getI dX3_readJoint_4 fl_X3_55 rfl ?_
        rw [k0]
        refine r_bipush (v := nI 9) dX3_readJoint_7 (by decide) ?_
        refine r_icmpN_lt 18 dX3_readJoint_9 (by decide) (by omega) (by omega) (fun c_9 => ?_) (fun c_9 => by omega)
        refine r_aload_0 dX3_readJoint_18 ?_
        refine r_cWQ0 mX3_readToken dX3_readJoint_19 ml_X3_35 mo_X3_readToken rfl (k_readToken ok c.1 g.1.2.1 c.2.1.2.2.1) (by decide) (fun h2 p2 => ?_)
        have c2 := c.tok p2
        refine r_aload_0 dX3_readJoint_22 ?_
        refine r_cVQ0 mX3_takeNewName dX3_readJoint_23 ml_X3_67 mo_X3_takeNewName rfl (k_new ok c2 g1 hJ no) (by decide) (fun h3 p3 => ?_)
        obtain ⟨c3, e9, f3⟩ := p3.1 hn
        have cw := k_within c3.2.1 g2 0 60
        rw [b2i_f hv, if_neg hv] at cw
        rw [b2i_t hn]
        refine r_if_eq 39 dX3_readJoint_26 (by decide) (fun c_26 => by exact absurd c_26 (by decide)) (fun c_26 => ?_)
        refine r_aload_0 dX3_readJoint_29 ?_
        refine r_iconst (v := 0) dX3_readJoint_30 (by decide) ?_
        refine r_bipush (v := 60) dX3_readJoint_31 (by decide) ?_
        refine r_cV2 mX3_isWholeWithin dX3_readJoint_33 ml_X3_70 mo_X3_isWholeWithin rfl cw (by decide) ?_
        refine r_if_ne 41 dX3_readJoint_36 (by decide) (fun c_36 => by exact absurd rfl c_36) (fun c_36 => ?_)
        refine r_iconst (v := 0) dX3_readJoint_39 (by decide) ?_
        refine r_zret dX3_readJoint_40 rfl rfl ?_
        exact ⟨(by first | rfl | exact congrArg (fun x => some (Value.int x)) (b2i_f hv).symm), fun q => absurd q hv, fun _ => c3.bad _, fc_b (p2.2.fc.tr f3)⟩
    · have e : spJoint B n k t nm = (nF B (nx B n k) t nm, (nx B n k), t, nm) := by unfold spJoint; rw [if_neg h9, if_neg hn]
      rw [e]
      refine r_aload_0 dX3_readJoint_0 ?_
      refine r_getR (a := 3) dX3_readJoint_1 fl_X3_12 rfl rfl ?_
      refine r_getI dX3_readJoint_4 fl_X3_55 rfl ?_
      rw [k0]
      refine r_bipush (v := nI 9) dX3_readJoint_7 (by decide) ?_
      refine r_icmpN_lt 18 dX3_readJoint_9 (by decide) (by omega) (by omega) (fun c_9 => ?_) (fun c_9 => by omega)
      refine r_aload_0 dX3_readJoint_18 ?_
      refine r_cWQ0 mX3_readToken dX3_readJoint_19 ml_X3_35 mo_X3_readToken rfl (k_readToken ok c.1 g.1.2.1 c.2.1.2.2.1) (by decide) (fun h2 p2 => ?_)
      have c2 := c.tok p2
      refine r_aload_0 dX3_readJoint_22 ?_
      refine r_cVQ0 mX3_takeNewName dX3_readJoint_23 ml_X3_67 mo_X3_takeNewName rfl (k_new ok c2 g1 hJ no) (by decide) (fun h3 p3 => ?_)
      have e3 := p3.2 hn
      rw [b2i_f hn]
      refine r_if_eq 39 dX3_readJoint_26 (by decide) (fun c_26 => ?_) (fun c_26 => by exact absurd rfl c_26)
      refine r_iconst (v := 0) dX3_readJoint_39 (by decide) ?_
      refine r_zret dX3_readJoint_40 rfl rfl ?_
      rw [e3]
      exact ⟨(by first | rfl | exact congrArg (fun x => some (Value.int x)) (b2i_f hn).symm), fun q => absurd q hn, fun _ => c2.bad _, fc_b p2.2.fc⟩

theorem ends_g {n : Nat} {B : Nat → Nat} {k : TK} {t : NT} {nm : NMS} (g : TGd n B k) (h : (spEnds B n k t nm).1 = 0) : TGd n B (spEnds B n k t nm).2.1 ∧ k.2.2 ≤ (spEnds B n k t nm).2.1.2.1 ∧ (spEnds B n k t nm).2.2.1 < NT.J t ∧ (spEnds B n k t nm).2.2.2 < NT.J t ∧ (spEnds B n k t nm).2.2.1 ≠ (spEnds B n k t nm).2.2.2 ∧ NT.E t ≠ 14 := by
  have g1 := g.nx
  have g2 := g1.1.nx
  have g3 := g2.1.nx
  have a1 := g1.1.1.1
  have a2 := g2.1.1.1
  unfold spEnds at h ⊢
  by_cases h14 : NT.E t = 14
  · rw [if_pos h14] at h; exact absurd h (show ¬ ((4 : Int32) = 0) by decide)
  · rw [if_neg h14] at h ⊢
    cases hj1 : jA B (nx B n k) t nm with
    | none => rw [hj1] at h; simp only at h; unfold jFl at h; split at h <;> exact absurd h (by decide)
    | some a =>
      rw [hj1] at h; simp only at h ⊢
      have ha : a < NT.J t := by unfold jA at hj1; split at hj1; exact jH_lt hj1; cases hj1
      cases hj2 : jA B (nx B n (nx B n k)) t nm with
      | none => rw [hj2] at h; simp only at h; unfold jFl at h; split at h <;> exact absurd h (by decide)
      | some b =>
        rw [hj2] at h; simp only at h ⊢
        have hb : b < NT.J t := by unfold jA at hj2; split at hj2; exact jH_lt hj2; cases hj2
        by_cases hab : b = a
        · rw [if_pos hab] at h; exact absurd h (show ¬ ((3 : Int32) = 0) by decide)
        · rw [if_neg hab]
          exact ⟨g3.1, by simp only; omega, ha, hb, fun q => hab q.symm, h14⟩
set_option maxRecDepth 100000 in
set_option maxHeartbeats 4000000 in
theorem k_res {h : PH} {n : Nat} {B : Nat → Nat} (ok : OKB n B) {k : TK} {t : NT} {nm : NMS} (c : CRd h n B k t nm) (g : TGd n B k) (ti : TI t) (no : nmOK t nm) (kd : Int32) : Con mX3_readResisting 5 [.ref 2, .int kd] h (fun a h' => a = some (.int (b2i ((spRes B n kd k t nm).1 = 0))) ∧ COut h h' n B (spRes B n kd k t nm)) := by
  have hE := ti.2.1
  refine Con.mk (by decide) ?_
  show RT _ _ 0 [some (.ref 2), some (.int kd)] [] _ _
  by_cases he : (spEnds B n k t nm).1 = 0
  · obtain ⟨ge, -, ha, hb, hab, h14⟩ := ends_g g he
    by_cases hv : wF B (spEnds B n k t nm).2.1 1 20 = 0
    · have hv2 := (wF_0 hv).1
      have e : spRes B n kd k t nm = (0, nx B n (spEnds B n k t nm).2.1, adE t kd (spEnds B n k t nm).2.2.1 (spEnds B n k t nm).2.2.2 (wv B (spEnds B n k t nm).2.1), nm) := by unfold spRes; rw [if_pos he, if_pos hv]
      rw [e]
      refine r_aload_0 dX3_readResisting_0 ?_
      refine r_cVQ0 mX3_readEnds dX3_readResisting_1 ml_X3_110 mo_X3_readEnds rfl (k_ends ok c g ti no) (by decide) (fun h2 p2 => ?_)
      obtain ⟨c2, e10, e11⟩ := p2.1 he
      have cw := k_within c2.2.1 ge 1 20
      rw [b2i_t hv, if_pos hv] at cw
      rw [b2i_t he]
      refine r_if_eq 17 dX3_readResisting_4 (by decide) (fun c_4 => by exact absurd c_4 (by decide)) (fun c_4 => ?_)
      refine r_aload_0 dX3_readResisting_7 ?_
      refine r_iconst (v := 1) dX3_readResisting_8 (by decide) ?_
      refine r_bipush (v := 20) dX3_readResisting_9 (by decide) ?_
      refine r_cV2 mX3_isWholeWithin dX3_readResisting_11 ml_X3_70 mo_X3_isWholeWithin rfl cw (by decide) ?_
      refine r_if_ne 19 dX3_readResisting_14 (by decide) (fun c_14 => ?_) (fun c_14 => by exact absurd c_14 (by decide))
      refine r_aload_0 dX3_readResisting_19 ?_
      refine r_getR (a := 3) dX3_readResisting_20 fl_X3_12 rfl rfl ?_
      refine r_iload_1 dX3_readResisting_23 ?_
      refine r_aload_0 dX3_readResisting_24 ?_
      refine r_getI dX3_readResisting_25 fl_X3_113 rfl ?_
      rw [e10]
      refine r_aload_0 dX3_readResisting_28 ?_
      refine r_getI dX3_readResisting_29 fl_X3_116 rfl ?_
      rw [e11]
      refine r_aload_0 dX3_readResisting_32 ?_
      refine r_getI dX3_readResisting_33 fl_X3_74 rfl ?_
      rw [c2.2.1.2.2.2.2 hv2]
      refine r_cW4 mX2_addEdge dX3_readResisting_36 ml_X3_119 mo_X2_addEdge rfl (k_addE c2.2.2.1.2.1 (by omega) kd _ _ _) (by decide) ?_
      refine r_aload_0 dX3_readResisting_39 ?_
      refine r_cWQ0 mX3_readToken dX3_readResisting_40 ml_X3_35 mo_X3_readToken rfl (k_readToken ok (c2.addE kd (spEnds B n k t nm).2.2.1 (spEnds B n k t nm).2.2.2 (wv B (spEnds B n k t nm).2.1)).1 ge.1.2.1 (c2.addE kd (spEnds B n k t nm).2.2.1 (spEnds B n k t nm).2.2.2 (wv B (spEnds B n k t nm).2.1)).2.1.2.2.1) (by decide) (fun h4 p4 => ?_)
      have c4 := (c2.addE kd (spEnds B n k t nm).2.2.1 (spEnds B n k t nm).2.2.2 (wv B (spEnds B n k t nm).2.1)).tok p4
      refine r_iconst (v := 1) dX3_readResisting_43 (by decide) ?_
      refine r_zret dX3_readResisting_44 rfl rfl ?_
      exact ⟨congrArg (fun x => some (Value.int x)) (b2i_t rfl).symm, fun _ => c4, fun q => absurd rfl q, (p2.2.2.tr fr_E.net3).tr p4.2.fc⟩
    · have e : spRes B n kd k t nm = (wF B (spEnds B n k t nm).2.1 1 20, (spEnds B n k t nm).2.1, t, nm) := by unfold spRes; rw [if_pos he, if_neg hv]
      rw [e]
      refine r_aload_0 dX3_readResisting_0 ?_
      refine r_cVQ0 mX3_readEnds dX3_readResisting_1 ml_X3_110 mo_X3_readEnds rfl (k_ends ok c g ti no) (by decide) (fun h2 p2 => ?_)
      obtain ⟨c2, e10, e11⟩ := p2.1 he
      have cw := k_within c2.2.1 ge 1 20
      rw [b2i_f hv, if_neg hv] at cw
      rw [b2i_t he]
      refine r_if_eq 17 dX3_readResisting_4 (by decide) (fun c_4 => by exact absurd c_4 (by decide)) (fun c_4 => ?_)
      refine r_aload_0 dX3_readResisting_7 ?_
      refine r_iconst (v := 1) dX3_readResisting_8 (by decide) ?_
      refine r_bipush (v := 20) dX3_readResisting_9 (by decide) ?_
      refine r_cV2 mX3_isWholeWithin dX3_readResisting_11 ml_X3_70 mo_X3_isWholeWithin rfl cw (by decide) ?_
      refine r_if_ne 19 dX3_readResisting_14 (by decide) (fun c_14 => by exact absurd rfl c_14) (fun c_14 => ?_)
      refine r_iconst (v := 0) dX3_readResisting_17 (by decide) ?_
      refine r_zret dX3_readResisting_18 rfl rfl ?_
      exact ⟨(by first | rfl | exact congrArg (fun x => some (Value.int x)) (b2i_f hv).symm), fun q => absurd q hv, fun _ => c2.bad _, fc_b p2.2.2⟩
  · have e : spRes B n kd k t nm = ((spEnds B n k t nm).1, (spEnds B n k t nm).2.1, t, nm) := by unfold spRes; rw [if_neg he]
    rw [e]
    refine r_aload_0 dX3_readResisting_0 ?_
    refine r_cVQ0 mX3_readEnds dX3_readResisting_1 ml_X3_110 mo_X3_readEnds rfl (k_ends ok c g ti no) (by decide) (fun h2 p2 => ?_)
    rw [b2i_f he]
    refine r_if_eq 17 dX3_readResisting_4 (by decide) (fun c_4 => ?_) (fun c_4 => by exact absurd rfl c_4)
    refine r_iconst (v := 0) dX3_readResisting_17 (by decide) ?_
    refine r_zret dX3_readResisting_18 rfl rfl ?_
    exact ⟨(by first | rfl | exact congrArg (fun x => some (Value.int x)) (b2i_f he).symm), fun q => absurd q he, fun _ => p2.2.1 he, p2.2.2⟩

