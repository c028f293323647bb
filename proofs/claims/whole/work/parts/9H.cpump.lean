/-! ===== what is read keeps what a net must keep ===== -/
theorem spLift_g {n : Nat} {B : Nat → Nat} {nm : NMS} : ∀ (m : Nat) (k : TK) (hi : Int32) (t : NT), TGd n B k → TI t → nmOK t nm → 0 < NT.E t → NT.lc t (NT.E t - 1) + m = 6 → hi.toInt ≤ 300 → (spLift B n nm m k hi t).1 = 0 → TI (spLift B n nm m k hi t).2.2.1 ∧ nmOK (spLift B n nm m k hi t).2.2.1 (spLift B n nm m k hi t).2.2.2 ∧ TGd n B (spLift B n nm m k hi t).2.1 ∧ k.2.1 ≤ (spLift B n nm m k hi t).2.1.2.1 := by
  intro m
  induction m with
  | zero =>
    intro k hi t g ti no h0 hl hh h
    exfalso
    unfold spLift at h
    by_cases q : wF B k 0 hi = 0
    · rw [if_pos q] at h; exact absurd h (show ¬ ((4 : Int32) = 0) by decide)
    · rw [if_neg q] at h; exact q h
  | succ m ih =>
    intro k hi t g ti no h0 hl hh h
    unfold spLift at h ⊢
    by_cases q : wF B k 0 hi = 0
    · rw [if_pos q] at h ⊢
      have q2 := wF_0 q
      have b := wvb (a := 0) (b := hi.toInt) q2.2 (by decide +kernel) rfl
      have ti' : TI (adL t (wv B k)) := ti.adL h0 (by omega) ⟨b.1, by omega⟩
      have e1 : NT.lc (adL t (wv B k)) (NT.E (adL t (wv B k)) - 1) = NT.lc t (NT.E t - 1) + 1 := fupd_s
      have g1 := g.nx
      have a0 := g.1.1
      by_cases c4 : (nx B n k).1 = 4
      · rw [if_pos c4] at h ⊢
        have g2 := g1.1.nx
        have a1 := g1.1.1.1
        have r := ih (nx B n (nx B n k)) (wv B k) (adL t (wv B k)) g2.1 ti' no h0 (by rw [e1]; omega) (by omega) h
        exact ⟨r.1, r.2.1, r.2.2.1, by have := r.2.2.2; omega⟩
      · rw [if_neg c4]
        exact ⟨ti', no, g1.1, by simp only; omega⟩
    · rw [if_neg q] at h; exact absurd h q
def GR (n : Nat) (B : Nat → Nat) (r : RS) : Prop := TI r.2.2.1 ∧ nmOK r.2.2.1 r.2.2.2 ∧ TGd n B r.2.1
theorem spWell_g {n : Nat} {B : Nat → Nat} {k : TK} {t : NT} {nm : NMS} (g : TGd n B k) (ti : TI t) (no : nmOK t nm) (h0 : NT.J t = 0) (h : (spWell B n k t nm).1 = 0) : GR n B (spWell B n k t nm) := by
  have g1 := g.nx.1
  have g2 := g1.nx.1
  have g3 := g2.nx.1
  unfold spWell at h ⊢
  by_cases hw : k.1 = 1 ∧ wd B k = kwL 0
  · rw [if_pos hw] at h ⊢
    by_cases hn : nF B (nx B n k) t nm = 0
    · rw [if_pos hn] at h ⊢
      by_cases hv : wF B (nx B n (nx B n k)) 0 999 = 0
      · rw [if_pos hv]
        have wo := wd_ok g1 (nF_0 hn).1
        have b := wvb (a := 0) (b := 999) (wF_0 hv).2 (by decide +kernel) (by decide +kernel)
        have ti' : TI (setWh t (wv B (nx B n (nx B n k)))) := ⟨ti.1, ti.2.1, ti.2.2.1, ti.2.2.2.1, b, ti.2.2.2.2.2.1, ti.2.2.2.2.2.2⟩
        exact ⟨ti'.adJ (by show NT.J t < 9; omega) (by decide +kernel) (fun _ => rfl), nmOK.ad (t := setWh t (wv B (nx B n (nx B n k)))) no wo.1 wo.2.1 wo.2.2, g3⟩
      · rw [if_neg hv] at h; exact absurd h hv
    · rw [if_neg hn] at h; exact absurd h hn
  · rw [if_neg hw] at h; exact absurd h (show ¬ ((1 : Int32) = 0) by decide)
theorem spLine_g {n : Nat} {B : Nat → Nat} {k : TK} {t : NT} {nm : NMS} (g : TGd n B k) (ti : TI t) (no : nmOK t nm) (h1 : 0 < NT.J t) (h : (spLine B n k t nm).1 = 0) : GR n B (spLine B n k t nm) ∧ k.2.2 ≤ (spLine B n k t nm).2.1.2.1 ∧ 0 < NT.J (spLine B n k t nm).2.2.1 := by
  have g1 := g.nx
  have g2 := g1.1.nx
  have g3 := g2.1.nx
  have g4 := g3.1.nx
  have g5 := g4.1.nx
  have a1 := g1.1.1.1
  have a2 := g2.1.1.1
  have a3 := g3.1.1.1
  have a4 := g4.1.1.1
  unfold spLine at h ⊢
  by_cases w1 : k.1 = 1 ∧ wd B k = kwL 1
  · rw [if_pos w1] at h ⊢
    unfold spJoint at h ⊢
    by_cases h9 : NT.J t = 9
    · rw [if_pos h9] at h; exact absurd h (show ¬ ((4 : Int32) = 0) by decide)
    · rw [if_neg h9] at h ⊢
      by_cases hn : nF B (nx B n k) t nm = 0
      · rw [if_pos hn] at h ⊢
        have wo := wd_ok g1.1 (nF_0 hn).1
        by_cases hv : wF B (nx B n (nx B n k)) 0 60 = 0
        · rw [if_pos hv] at h ⊢
          unfold spJ2 at h ⊢
          by_cases ha : (nx B n (nx B n (nx B n k))).1 = 1 ∧ wd B (nx B n (nx B n (nx B n k))) = kwL 2
          · rw [if_pos ha] at h ⊢
            by_cases hz : wF B (nx B n (nx B n (nx B n (nx B n k)))) 0 300 = 0
            · rw [if_pos hz]
              have b := wvb (a := 0) (b := 60) (wF_0 hv).2 (by decide +kernel) (by decide +kernel)
              refine ⟨⟨ti.adJ (by have := ti.1; omega) b (fun q => by omega), no.ad wo.1 wo.2.1 wo.2.2, g5.1⟩, by simp only; omega, Nat.succ_pos _⟩
            · rw [if_neg hz] at h; exact absurd h hz
          · rw [if_neg ha] at h; exact absurd h (show ¬ ((1 : Int32) = 0) by decide)
        · rw [if_neg hv] at h; exact absurd h hv
      · rw [if_neg hn] at h; exact absurd h hn
  · rw [if_neg w1] at h ⊢
    have res : ∀ kd : Int32, (kd = 0 ∨ kd = 1) → (spRes B n kd k t nm).1 = 0 → GR n B (spRes B n kd k t nm) ∧ k.2.2 ≤ (spRes B n kd k t nm).2.1.2.1 ∧ 0 < NT.J (spRes B n kd k t nm).2.2.1 := fun kd hkd h => by
      unfold spRes at h ⊢
      by_cases he : (spEnds B n k t nm).1 = 0
      · rw [if_pos he] at h ⊢
        obtain ⟨ge, le, ha, hb, hab, h14⟩ := ends_g g he
        have ae := ge.1.1
        have gn := ge.nx
        by_cases hv : wF B (spEnds B n k t nm).2.1 1 20 = 0
        · rw [if_pos hv]
          have b := wvb (a := 1) (b := 20) (wF_0 hv).2 (by decide +kernel) (by decide +kernel)
          exact ⟨⟨ti.adE (by have := ti.2.1; omega) (by rcases hkd with q | q; exact Or.inl q; exact Or.inr (Or.inl q)) ha hb hab (fun _ => b), no, gn.1⟩, by simp only; omega, h1⟩
        · rw [if_neg hv] at h; exact absurd h hv
      · rw [if_neg he] at h; exact absurd h he
    by_cases w3 : k.1 = 1 ∧ wd B k = kwL 3
    · rw [if_pos w3] at h ⊢; exact res 0 (Or.inl rfl) h
    · rw [if_neg w3] at h ⊢
      by_cases w4 : k.1 = 1 ∧ wd B k = kwL 4
      · rw [if_pos w4] at h ⊢; exact res 1 (Or.inr rfl) h
      · rw [if_neg w4] at h ⊢
        by_cases w5 : k.1 = 1 ∧ wd B k = kwL 5
        · rw [if_pos w5] at h ⊢
          unfold spPump at h ⊢
          by_cases he : (spEnds B n k t nm).1 = 0
          · rw [if_pos he] at h ⊢
            obtain ⟨ge, le, ha, hb, hab, h14⟩ := ends_g g he
            have tiE : TI (adE t 2 (spEnds B n k t nm).2.2.1 (spEnds B n k t nm).2.2.2 0) := ti.adE (by have := ti.2.1; omega) (Or.inr (Or.inr rfl)) ha hb hab (fun q => absurd rfl q)
            have r := spLift_g 6 (spEnds B n k t nm).2.1 300 _ ge tiE no (Nat.succ_pos _) (by show fupd (NT.lc t) (NT.E t) 0 (NT.E t + 1 - 1) + 6 = 6; rw [Nat.add_sub_cancel, fupd_s]) (by decide +kernel) h
            have rj : ∀ (m : Nat) (k : TK) (hi : Int32) (t : NT), NT.J (spLift B n nm m k hi t).2.2.1 = NT.J t := by
              intro m
              induction m with
              | zero => intro k hi t; rfl
              | succ m ih =>
                intro k hi t
                unfold spLift
                split
                · split
                  · exact ih _ _ _
                  · rfl
                · rfl
            exact ⟨⟨r.1, r.2.1, r.2.2.1⟩, by have := r.2.2.2; omega, by rw [rj]; exact h1⟩
          · rw [if_neg he] at h; exact absurd h he
        · rw [if_neg w5] at h; exact absurd h (show ¬ ((1 : Int32) = 0) by decide)
theorem fr_L {h : PH} {t : NT} {v : Int32} : Fr (fun y => 3 ≤ y ∧ y < 13) h (pI (pI h 12 (6 * (NT.E t - 1) + NT.lc t (NT.E t - 1)) v) 11 (NT.E t - 1) (nI (NT.lc t (NT.E t - 1) + 1))) := (Fr.rf.pI ⟨by omega, by omega⟩).pI ⟨by omega, by omega⟩
theorem CRd.addL {h : PH} {n : Nat} {B : Nat → Nat} {k : TK} {t : NT} {nm : NMS} (c : CRd h n B k t nm) (ti : TI t) (h0 : 0 < NT.E t) (h6 : NT.lc t (NT.E t - 1) < 6) (v : Int32) : CRd (pI (pI h 12 (6 * (NT.E t - 1) + NT.lc t (NT.E t - 1)) v) 11 (NT.E t - 1) (nI (NT.lc t (NT.E t - 1) + 1))) n B k (adL t v) nm := c.net fr_L (net_adL c.2.2.1 h0 (fun e he => (ti.2.2.1 e he).2.2.2.2.2.1) h6 v) (fun j hj => c.2.2.2.1 j hj)
set_option maxRecDepth 100000 in
set_option maxHeartbeats 4000000 in
theorem rpump_loop {n : Nat} {B : Nat → Nat} (ok : OKB n B) {nm : NMS} (h0 : PH) : ∀ (m c0 : Nat) (k : TK) (hi : Int32) (t : NT) (h : PH), c0 + m = 6 → CRd h n B k t nm → TGd n B k → TI t → 0 < NT.E t → NT.lc t (NT.E t - 1) = c0 → hi.toInt ≤ 300 → FCr h0 h → RT mX3_readPump 5 32 [some (.ref 2), some (.int hi), some (.int (nI c0))] [] h (fun a h' => a = some (.int (b2i ((spLift B n nm m k hi t).1 = 0))) ∧ COut h0 h' n B (spLift B n nm m k hi t)) := by
  intro m
  induction m with
  | zero =>
    intro c0 k hi t h hc c g ti hE hl hh fr
    by_cases hv : wF B k 0 hi = 0
    · have e : spLift B n nm 0 k hi t = (4, k, t, nm) := by unfold spLift; rw [if_pos hv]
      have cw := k_within c.2.1 g 0 hi
      rw [b2i_t hv, if_pos hv] at cw
      rw [e]
      refine r_iload_2 dX3_readPump_32 ?_
      refine r_bipush (v := nI 6) dX3_readPump_33 (by decide) ?_
      refine r_icmpN_ge 89 dX3_readPump_35 (by decide) (by omega) (by omega) (fun c_35 => ?_) (fun c_35 => by omega)
      refine r_aload_0 dX3_readPump_89 ?_
      refine r_iconst (v := 0) dX3_readPump_90 (by decide) ?_
      refine r_iload_1 dX3_readPump_91 ?_
      refine r_cV2 mX3_isWholeWithin dX3_readPump_92 ml_X3_70 mo_X3_isWholeWithin rfl cw (by decide) ?_
      refine r_if_eq 110 dX3_readPump_95 (by decide) (fun c_95 => by exact absurd c_95 (by decide)) (fun c_95 => ?_)
      refine r_aload_0 dX3_readPump_98 ?_
      refine r_iconst (v := 4) dX3_readPump_99 (by decide) ?_
      refine r_cV1 mX3_blame dX3_readPump_100 ml_X3_51 mo_X3_blame rfl (k_blame h 4) (by decide) ?_
      refine r_if_eq 110 dX3_readPump_103 (by decide) (fun c_103 => ?_) (fun c_103 => by exact absurd rfl c_103)
      refine r_iconst (v := 0) dX3_readPump_110 (by decide) ?_
      refine r_zret dX3_readPump_111 rfl rfl ?_
      exact ⟨(by first | rfl | exact congrArg (fun x => some (Value.int x)) (b2i_f (show ¬ ((4 : Int32) = 0) by decide)).symm), fun q => absurd q (show ¬ ((4 : Int32) = 0) by decide), fun _ => c.bad _, fc_b fr⟩
    · have e : spLift B n nm 0 k hi t = (wF B k 0 hi, k, t, nm) := by unfold spLift; rw [if_neg hv]
      have cw := k_within c.2.1 g 0 hi
      rw [b2i_f hv, if_neg hv] at cw
      rw [e]
      refine r_iload_2 dX3_readPump_32 ?_
      refine r_bipush (v := nI 6) dX3_readPump_33 (by decide) ?_
      refine r_icmpN_ge 89 dX3_readPump_35 (by decide) (by omega) (by omega) (fun c_35 => ?_) (fun c_35 => by omega)
      refine r_aload_0 dX3_readPump_89 ?_
      refine r_iconst (v := 0) dX3_readPump_90 (by decide) ?_
      refine r_iload_1 dX3_readPump_91 ?_
      refine r_cV2 mX3_isWholeWithin dX3_readPump_92 ml_X3_70 mo_X3_isWholeWithin rfl cw (by decide) ?_
      refine r_if_eq 110 dX3_readPump_95 (by decide) (fun c_95 => ?_) (fun c_95 => by exact absurd rfl c_95)
      refine r_iconst (v := 0) dX3_readPump_110 (by decide) ?_
      refine r_zret dX3_readPump_111 rfl rfl ?_
      exact ⟨(by first | rfl | exact congrArg (fun x => some (Value.int x)) (b2i_f hv).symm), fun q => absurd q hv, fun _ => c.bad _, fc_b fr⟩
  | succ m ih =>
    intro c0 k hi t h hc c g ti hE hl hh fr
    have hE14 := ti.2.1
    by_cases hv : wF B k 0 hi = 0
    · have hv2 := wF_0 hv
      have b := wvb (a := 0) (b := hi.toInt) hv2.2 (by decide +kernel) rfl
      have cw := k_within c.2.1 g 0 hi
      rw [b2i_t hv, if_pos hv] at cw
      have kl : h.1 11 (NT.E t - 1) = nI (NT.lc t (NT.E t - 1)) := (c.2.2.1.2.2.2.2.2 (NT.E t - 1) (by omega)).2.2.2.2.1
      have cL := c.addL ti hE (by omega) (wv B k)
      have tiL : TI (adL t (wv B k)) := ti.adL hE (by omega) ⟨b.1, by omega⟩
      have g1 := g.nx.1
      have m8 := c.2.1.2.2.2.2 hv2.1
      by_cases c4 : (nx B n k).1 = 4
      · have e : spLift B n nm (m + 1) k hi t = spLift B n nm m (nx B n (nx B n k)) (wv B k) (adL t (wv B k)) := by show (if wF B k 0 hi = 0 then (if (nx B n k).1 = 4 then spLift B n nm m (nx B n (nx B n k)) (wv B k) (adL t (wv B k)) else (0, nx B n k, adL t (wv B k), nm)) else (wF B k 0 hi, k, t, nm)) = _; rw [if_pos hv, if_pos c4]
        rw [e]
        refine r_iload_2 dX3_readPump_32 ?_
        refine r_bipush (v := nI 6) dX3_readPump_33 (by decide) ?_
        refine r_icmpN_ge 89 dX3_readPump_35 (by decide) (by omega) (by omega) (fun c_35 => by omega) (fun c_35 => ?_)
        refine r_aload_0 dX3_readPump_38 ?_
        refine r_iconst (v := 0) dX3_readPump_39 (by decide) ?_
        refine r_iload_1 dX3_readPump_40 ?_
        refine r_cV2 mX3_isWholeWithin dX3_readPump_41 ml_X3_70 mo_X3_isWholeWithin rfl cw (by decide) ?_
        refine r_if_ne 49 dX3_readPump_44 (by decide) (fun c_44 => ?_) (fun c_44 => by exact absurd c_44 (by decide))
        refine r_aload_0 dX3_readPump_49 ?_
        refine r_getI dX3_readPump_50 fl_X3_74 rfl ?_
        rw [m8]
        refine r_istore_1 dX3_readPump_53 ?_
        refine r_aload_0 dX3_readPump_54 ?_
        refine r_getR (a := 3) dX3_readPump_55 fl_X3_12 rfl rfl ?_
        refine r_aload_0 dX3_readPump_58 ?_
        refine r_getI dX3_readPump_59 fl_X3_74 rfl ?_
        rw [m8]
        refine r_cW1 mX2_addLift dX3_readPump_62 ml_X3_123 mo_X2_addLift rfl (k_addL c.2.2.1.2.1 hE hE14 kl (by omega) _) (by decide) ?_
        refine r_aload_0 dX3_readPump_65 ?_
        refine r_cWQ0 mX3_readToken dX3_readPump_66 ml_X3_35 mo_X3_readToken rfl (k_readToken ok cL.1 g.1.2.1 cL.2.1.2.2.1) (by decide) (fun h2 p2 => ?_)
        have c2 := cL.tok p2
        refine r_aload_0 dX3_readPump_69 ?_
        refine r_getI dX3_readPump_70 fl_X3_42 rfl ?_
        rw [c2.2.1.1]
        refine r_iconst (v := 4) dX3_readPump_73 (by decide) ?_
        refine r_icmp_eq 79 dX3_readPump_74 (by decide) (fun c_74 => ?_) (fun c_74 => by exact absurd (by rw [c4]; rfl) c_74)
        refine r_aload_0 dX3_readPump_79 ?_
        refine r_cWQ0 mX3_readToken dX3_readPump_80 ml_X3_35 mo_X3_readToken rfl (k_readToken ok c2.1 g1.1.2.1 c2.2.1.2.2.1) (by decide) (fun h3 p3 => ?_)
        have c3 := c2.tok p3
        refine r_iincN_2 dX3_readPump_83 ?_
        refine r_goto 32 dX3_readPump_86 (by decide) ?_
        exact ih (c0 + 1) _ _ _ h3 (by omega) c3 g1.nx.1 tiL hE (by show fupd (NT.lc t) (NT.E t - 1) (NT.lc t (NT.E t - 1) + 1) (NT.E t - 1) = c0 + 1; rw [fupd_s]; omega) (by omega) (((fr.tr fr_L.net3).tr p2.2.fc).tr p3.2.fc)
      · have e : spLift B n nm (m + 1) k hi t = (0, nx B n k, adL t (wv B k), nm) := by show (if wF B k 0 hi = 0 then (if (nx B n k).1 = 4 then spLift B n nm m (nx B n (nx B n k)) (wv B k) (adL t (wv B k)) else (0, nx B n k, adL t (wv B k), nm)) else (wF B k 0 hi, k, t, nm)) = _; rw [if_pos hv, if_neg c4]
        have k5 := g1.1.2.2.2
        rw [e]
        refine r_iload_2 dX3_readPump_32 ?_
        refine r_bipush (v := nI 6) dX3_readPump_33 (by decide) ?_
        refine r_icmpN_ge 89 dX3_readPump_35 (by decide) (by omega) (by omega) (fun c_35 => by omega) (fun c_35 => ?_)
        refine r_aload_0 dX3_readPump_38 ?_
        refine r_iconst (v := 0) dX3_readPump_39 (by decide) ?_
        refine r_iload_1 dX3_readPump_40 ?_
        refine r_cV2 mX3_isWholeWithin dX3_readPump_41 ml_X3_70 mo_X3_isWholeWithin rfl cw (by decide) ?_
        refine r_if_ne 49 dX3_readPump_44 (by decide) (fun c_44 => ?_) (fun c_44 => by exact absurd c_44 (by decide))
        refine r_aload_0 dX3_readPump_49 ?_
        refine r_getI dX3_readPump_50 fl_X3_74 rfl ?_
        rw [m8]
        refine r_istore_1 dX3_readPump_53 ?_
        refine r_aload_0 dX3_readPump_54 ?_
        refine r_getR (a := 3) dX3_readPump_55 fl_X3_12 rfl rfl ?_
        refine r_aload_0 dX3_readPump_58 ?_
        refine r_getI dX3_readPump_59 fl_X3_74 rfl ?_
        rw [m8]
        refine r_cW1 mX2_addLift dX3_readPump_62 ml_X3_123 mo_X2_addLift rfl (k_addL c.2.2.1.2.1 hE hE14 kl (by omega) _) (by decide) ?_
        refine r_aload_0 dX3_readPump_65 ?_
        refine r_cWQ0 mX3_readToken dX3_readPump_66 ml_X3_35 mo_X3_readToken rfl (k_readToken ok cL.1 g.1.2.1 cL.2.1.2.2.1) (by decide) (fun h2 p2 => ?_)
        have c2 := cL.tok p2
        refine r_aload_0 dX3_readPump_69 ?_
        refine r_getI dX3_readPump_70 fl_X3_42 rfl ?_
        rw [c2.2.1.1]
        refine r_iconst (v := 4) dX3_readPump_73 (by decide) ?_
        refine r_icmp_eq 79 dX3_readPump_74 (by decide) (fun c_74 => by exact absurd (nI_jn (b := 4) (by omega) (by omega) c_74) c4) (fun c_74 => ?_)
        refine r_iconst (v := 1) dX3_readPump_77 (by decide) ?_
        refine r_zret dX3_readPump_78 rfl rfl ?_
        exact ⟨(by first | rfl | exact congrArg (fun x => some (Value.int x)) (b2i_t rfl).symm), fun _ => c2, fun q => absurd rfl q, (fr.tr fr_L.net3).tr p2.2.fc⟩
    · have e : spLift B n nm (m + 1) k hi t = (wF B k 0 hi, k, t, nm) := by show (if wF B k 0 hi = 0 then (if (nx B n k).1 = 4 then spLift B n nm m (nx B n (nx B n k)) (wv B k) (adL t (wv B k)) else (0, nx B n k, adL t (wv B k), nm)) else (wF B k 0 hi, k, t, nm)) = _; rw [if_neg hv]
      have cw := k_within c.2.1 g 0 hi
      rw [b2i_f hv, if_neg hv] at cw
      rw [e]
      refine r_iload_2 dX3_readPump_32 ?_
      refine r_bipush (v := nI 6) dX3_readPump_33 (by decide) ?_
      refine r_icmpN_ge 89 dX3_readPump_35 (by decide) (by omega) (by omega) (fun c_35 => by omega) (fun c_35 => ?_)
      refine r_aload_0 dX3_readPump_38 ?_
      refine r_iconst (v := 0) dX3_readPump_39 (by decide) ?_
      refine r_iload_1 dX3_readPump_40 ?_
      refine r_cV2 mX3_isWholeWithin dX3_readPump_41 ml_X3_70 mo_X3_isWholeWithin rfl cw (by decide) ?_
      refine r_if_ne 49 dX3_readPump_44 (by decide) (fun c_44 => by exact absurd rfl c_44) (fun c_44 => ?_)
      refine r_iconst (v := 0) dX3_readPump_47 (by decide) ?_
      refine r_zret dX3_readPump_48 rfl rfl ?_
      exact ⟨(by first | rfl | exact congrArg (fun x => some (Value.int x)) (b2i_f hv).symm), fun q => absurd q hv, fun _ => c.bad _, fc_b fr⟩
set_option maxRecDepth 100000 in
set_option maxHeartbeats 4000000 in
theorem k_rpump {h : PH} {n : Nat} {B : Nat → Nat} (ok : OKB n B) {k : TK} {t : NT} {nm : NMS} (c : CRd h n B k t nm) (g : TGd n B k) (ti : TI t) (no : nmOK t nm) : Con mX3_readPump 5 [.ref 2] h (fun a h' => a = some (.int (b2i ((spPump B n k t nm).1 = 0))) ∧ COut h h' n B (spPump B n k t nm)) := by
  have hE := ti.2.1
  refine Con.mk (by decide) ?_
  show RT _ _ 0 [some (.ref 2), none, none] [] _ _
  by_cases he : (spEnds B n k t nm).1 = 0
  · obtain ⟨ge, -, ha, hb, hab, h14⟩ := ends_g g he
    have e : spPump B n k t nm = spLift B n nm 6 (spEnds B n k t nm).2.1 300 (adE t 2 (spEnds B n k t nm).2.2.1 (spEnds B n k t nm).2.2.2 0) := by unfold spPump; rw [if_pos he]
    rw [e]
    refine r_aload_0 dX3_readPump_0 ?_
    refine r_cVQ0 mX3_readEnds dX3_readPump_1 ml_X3_110 mo_X3_readEnds rfl (k_ends ok c g ti no) (by decide) (fun h2 p2 => ?_)
    obtain ⟨c2, e10, e11⟩ := p2.1 he
    rw [b2i_t he]
    refine r_if_ne 9 dX3_readPump_4 (by decide) (fun c_4 => ?_) (fun c_4 => by exact absurd c_4 (by decide))
    refine r_aload_0 dX3_readPump_9 ?_
    refine r_getR (a := 3) dX3_readPump_10 fl_X3_12 rfl rfl ?_
    refine r_iconst (v := 2) dX3_readPump_13 (by decide) ?_
    refine r_aload_0 dX3_readPump_14 ?_
    refine r_getI dX3_readPump_15 fl_X3_113 rfl ?_
    rw [e10]
    refine r_aload_0 dX3_readPump_18 ?_
    refine r_getI dX3_readPump_19 fl_X3_116 rfl ?_
    rw [e11]
    refine r_iconst (v := 0) dX3_readPump_22 (by decide) ?_
    refine r_cW4 mX2_addEdge dX3_readPump_23 ml_X3_119 mo_X2_addEdge rfl (k_addE c2.2.2.1.2.1 (by omega) 2 _ _ 0) (by decide) ?_
    refine r_sipush (v := 300) dX3_readPump_26 (by decide) ?_
    refine r_istore_1 dX3_readPump_29 ?_
    refine r_iconst (v := nI 0) dX3_readPump_30 (by decide) ?_
    refine r_istore_2 dX3_readPump_31 ?_
    exact rpump_loop ok h 6 0 _ 300 _ _ (by omega) (c2.addE 2 (spEnds B n k t nm).2.2.1 (spEnds B n k t nm).2.2.2 0) ge (ti.adE (by omega) (Or.inr (Or.inr rfl)) ha hb hab (fun q => absurd rfl q)) (Nat.succ_pos _) (by show fupd (NT.lc t) (NT.E t) 0 (NT.E t + 1 - 1) = 0; rw [Nat.add_sub_cancel, fupd_s]) (by decide +kernel) (p2.2.2.tr fr_E.net3)
  · have e : spPump B n k t nm = ((spEnds B n k t nm).1, (spEnds B n k t nm).2.1, t, nm) := by unfold spPump; rw [if_neg he]
    rw [e]
    refine r_aload_0 dX3_readPump_0 ?_
    refine r_cVQ0 mX3_readEnds dX3_readPump_1 ml_X3_110 mo_X3_readEnds rfl (k_ends ok c g ti no) (by decide) (fun h2 p2 => ?_)
    rw [b2i_f he]
    refine r_if_ne 9 dX3_readPump_4 (by decide) (fun c_4 => by exact absurd rfl c_4) (fun c_4 => ?_)
    refine r_iconst (v := 0) dX3_readPump_7 (by decide) ?_
    refine r_zret dX3_readPump_8 rfl rfl ?_
    exact ⟨(by first | rfl | exact congrArg (fun x => some (Value.int x)) (b2i_f he).symm), fun q => absurd q he, fun _ => p2.2.1 he, p2.2.2⟩

set_option maxRecDepth 100000 in
set_option maxHeartbeats 4000000 in
theorem k_line {h : PH} {n : Nat} {B : Nat → Nat} (ok : OKB n B) {k : TK} {t : NT} {nm : NMS} (c : CRd h n B k t nm) (g : TGd n B k) (ti : TI t) (no : nmOK t nm) : Con mX3_readLine 6 [.ref 2] h (fun a h' => a = some (.int (b2i ((spLine B n k t nm).1 = 0))) ∧ COut h h' n B (spLine B n k t nm)) := by
  obtain ⟨kc0, kc1, kc2, kc3, kc4, kc5⟩ := kc_all
  have k4 := g.1.2.2.2
  have m1 := c.2.1.1
  refine Con.mk (by decide) ?_
  show RT _ _ 0 [some (.ref 2)] [] _ _
  by_cases h1 : k.1 = 1
  · have mw := c.2.1.2.2.2.1 h1
    by_cases w1 : wd B k = kwL 1
    · have e : spLine B n k t nm = spJoint B n k t nm := by unfold spLine; rw [if_pos ⟨h1, w1⟩]
      rw [e]
      refine r_aload_0 dX3_readLine_0 ?_
      refine r_getI dX3_readLine_1 fl_X3_42 rfl ?_
      rw [m1]
      refine r_iconst (v := 1) dX3_readLine_4 (by decide) ?_
      refine r_icmp_eq 14 dX3_readLine_5 (by decide) (fun c_5 => ?_) (fun c_5 => by exact absurd (by rw [h1]; rfl) c_5)
      refine r_aload_0 dX3_readLine_14 ?_
      refine r_getL dX3_readLine_15 fl_X3_88 rfl ?_
      rw [mw]
      refine r_ldc2 dX3_readLine_18 ks_X3_91 ?_
      refine r_lif_ne 30 dX3_readLine_21 dX3_readLine_22 (by decide) (fun c_21 => by exact absurd ((wk_i g h1 (i := 1) (by decide) kc1).mpr w1) c_21) (fun c_21 => ?_)
      refine r_aload_0 dX3_readLine_25 ?_
      refine r_cVQ0 mX3_readJoint dX3_readLine_26 ml_X3_93 mo_X3_readJoint rfl (k_joint ok c g ti no) (by decide) (fun h2 p2 => ?_)
      refine r_zret dX3_readLine_29 rfl (by unfold b2i; split <;> rfl) ?_
      exact ⟨rfl, p2⟩
    · by_cases w3 : wd B k = kwL 3
      · have e : spLine B n k t nm = spRes B n 0 k t nm := by unfold spLine; rw [if_neg (fun q => w1 q.2), if_pos ⟨h1, w3⟩]
        rw [e]
        refine r_aload_0 dX3_readLine_0 ?_
        refine r_getI dX3_readLine_1 fl_X3_42 rfl ?_
        rw [m1]
        refine r_iconst (v := 1) dX3_readLine_4 (by decide) ?_
        refine r_icmp_eq 14 dX3_readLine_5 (by decide) (fun c_5 => ?_) (fun c_5 => by exact absurd (by rw [h1]; rfl) c_5)
        refine r_aload_0 dX3_readLine_14 ?_
        refine r_getL dX3_readLine_15 fl_X3_88 rfl ?_
        rw [mw]
        refine r_ldc2 dX3_readLine_18 ks_X3_91 ?_
        refine r_lif_ne 30 dX3_readLine_21 dX3_readLine_22 (by decide) (fun c_21 => ?_) (fun c_21 => by exact absurd ((wk_i g h1 (i := 1) (by decide) kc1).mp c_21) w1)
        refine r_aload_0 dX3_readLine_30 ?_
        refine r_getL dX3_readLine_31 fl_X3_88 rfl ?_
        rw [mw]
        refine r_ldc2 dX3_readLine_34 ks_X3_96 ?_
        refine r_lif_ne 47 dX3_readLine_37 dX3_readLine_38 (by decide) (fun c_37 => by exact absurd ((wk_i g h1 (i := 3) (by decide) kc3).mpr w3) c_37) (fun c_37 => ?_)
        refine r_aload_0 dX3_readLine_41 ?_
        refine r_iconst (v := 0) dX3_readLine_42 (by decide) ?_
        refine r_cVQ1 mX3_readResisting dX3_readLine_43 ml_X3_98 mo_X3_readResisting rfl (k_res ok c g ti no 0) (by decide) (fun h2 p2 => ?_)
        refine r_zret dX3_readLine_46 rfl (by unfold b2i; split <;> rfl) ?_
        exact ⟨rfl, p2⟩
      · by_cases w4 : wd B k = kwL 4
        · have e : spLine B n k t nm = spRes B n 1 k t nm := by unfold spLine; rw [if_neg (fun q => w1 q.2), if_neg (fun q => w3 q.2), if_pos ⟨h1, w4⟩]
          rw [e]
          refine r_aload_0 dX3_readLine_0 ?_
          refine r_getI dX3_readLine_1 fl_X3_42 rfl ?_
          rw [m1]
          refine r_iconst (v := 1) dX3_readLine_4 (by decide) ?_
          refine r_icmp_eq 14 dX3_readLine_5 (by decide) (fun c_5 => ?_) (fun c_5 => by exact absurd (by rw [h1]; rfl) c_5)
          refine r_aload_0 dX3_readLine_14 ?_
          refine r_getL dX3_readLine_15 fl_X3_88 rfl ?_
          rw [mw]
          refine r_ldc2 dX3_readLine_18 ks_X3_91 ?_
          refine r_lif_ne 30 dX3_readLine_21 dX3_readLine_22 (by decide) (fun c_21 => ?_) (fun c_21 => by exact absurd ((wk_i g h1 (i := 1) (by decide) kc1).mp c_21) w1)
          refine r_aload_0 dX3_readLine_30 ?_
          refine r_getL dX3_readLine_31 fl_X3_88 rfl ?_
          rw [mw]
          refine r_ldc2 dX3_readLine_34 ks_X3_96 ?_
          refine r_lif_ne 47 dX3_readLine_37 dX3_readLine_38 (by decide) (fun c_37 => ?_) (fun c_37 => by exact absurd ((wk_i g h1 (i := 3) (by decide) kc3).mp c_37) w3)
          refine r_aload_0 dX3_readLine_47 ?_
          refine r_getL dX3_readLine_48 fl_X3_88 rfl ?_
          rw [mw]
          refine r_ldc2 dX3_readLine_51 ks_X3_101 ?_
          refine r_lif_ne 64 dX3_readLine_54 dX3_readLine_55 (by decide) (fun c_54 => by exact absurd ((wk_i g h1 (i := 4) (by decide) kc4).mpr w4) c_54) (fun c_54 => ?_)
          refine r_aload_0 dX3_readLine_58 ?_
          refine r_iconst (v := 1) dX3_readLine_59 (by decide) ?_
          refine r_cVQ1 mX3_readResisting dX3_readLine_60 ml_X3_98 mo_X3_readResisting rfl (k_res ok c g ti no 1) (by decide) (fun h2 p2 => ?_)
          refine r_zret dX3_readLine_63 rfl (by unfold b2i; split <;> rfl) ?_
          exact ⟨rfl, p2⟩
        · by_cases w5 : wd B k = kwL 5
          · have e : spLine B n k t nm = spPump B n k t nm := by unfold spLine; rw [if_neg (fun q => w1 q.2), if_neg (fun q => w3 q.2), if_neg (fun q => w4 q.2), if_pos ⟨h1, w5⟩]
            rw [e]
            refine r_aload_0 dX3_readLine_0 ?_
            refine r_getI dX3_readLine_1 fl_X3_42 rfl ?_
            rw [m1]
            refine r_iconst (v := 1) dX3_readLine_4 (by decide) ?_
            refine r_icmp_eq 14 dX3_readLine_5 (by decide) (fun c_5 => ?_) (fun c_5 => by exact absurd (by rw [h1]; rfl) c_5)
            refine r_aload_0 dX3_readLine_14 ?_
            refine r_getL dX3_readLine_15 fl_X3_88 rfl ?_
            rw [mw]
            refine r_ldc2 dX3_readLine_18 ks_X3_91 ?_
            refine r_lif_ne 30 dX3_readLine_21 dX3_readLine_22 (by decide) (fun c_21 => ?_) (fun c_21 => by exact absurd ((wk_i g h1 (i := 1) (by decide) kc1).mp c_21) w1)
            refine r_aload_0 dX3_readLine_30 ?_
            refine r_getL dX3_readLine_31 fl_X3_88 rfl ?_
            rw [mw]
            refine r_ldc2 dX3_readLine_34 ks_X3_96 ?_
            refine r_lif_ne 47 dX3_readLine_37 dX3_readLine_38 (by decide) (fun c_37 => ?_) (fun c_37 => by exact absurd ((wk_i g h1 (i := 3) (by decide) kc3).mp c_37) w3)
            refine r_aload_0 dX3_readLine_47 ?_
            refine r_getL dX3_readLine_48 fl_X3_88 rfl ?_
            rw [mw]
            refine r_ldc2 dX3_readLine_51 ks_X3_101 ?_
            refine r_lif_ne 64 dX3_readLine_54 dX3_readLine_55 (by decide) (fun c_54 => ?_) (fun c_54 => by exact absurd ((wk_i g h1 (i := 4) (by decide) kc4).mp c_54) w4)
            refine r_aload_0 dX3_readLine_64 ?_
            refine r_getL dX3_readLine_65 fl_X3_88 rfl ?_
            rw [mw]
            refine r_ldc2 dX3_readLine_68 ks_X3_103 ?_
            refine r_lif_ne 82 dX3_readLine_71 dX3_readLine_72 (by decide) (fun c_71 => by exact absurd ((wk_i g h1 (i := 5) (by decide) kc5).mpr w5) c_71) (fun c_71 => ?_)
            refine r_aload_0 dX3_readLine_75 ?_
            refine r_cVQ0 mX3_readPump dX3_readLine_76 ml_X3_105 mo_X3_readPump rfl (k_rpump ok c g ti no) (by decide) (fun h2 p2 => ?_)
            refine r_goto 87 dX3_readLine_79 (by decide) ?_
            refine r_zret dX3_readLine_87 rfl (by unfold b2i; split <;> rfl) ?_
            exact ⟨rfl, p2⟩
          · have e : spLine B n k t nm = (1, k, t, nm) := by unfold spLine; rw [if_neg (fun q => w1 q.2), if_neg (fun q => w3 q.2), if_neg (fun q => w4 q.2), if_neg (fun q => w5 q.2)]
            rw [e]
            refine r_aload_0 dX3_readLine_0 ?_
            refine r_getI dX3_readLine_1 fl_X3_42 rfl ?_
            rw [m1]
            refine r_iconst (v := 1) dX3_readLine_4 (by decide) ?_
            refine r_icmp_eq 14 dX3_readLine_5 (by decide) (fun c_5 => ?_) (fun c_5 => by exact absurd (by rw [h1]; rfl) c_5)
            refine r_aload_0 dX3_readLine_14 ?_
            refine r_getL dX3_readLine_15 fl_X3_88 rfl ?_
            rw [mw]
            refine r_ldc2 dX3_readLine_18 ks_X3_91 ?_
            refine r_lif_ne 30 dX3_readLine_21 dX3_readLine_22 (by decide) (fun c_21 => ?_) (fun c_21 => by exact absurd ((wk_i g h1 (i := 1) (by decide) kc1).mp c_21) w1)
            refine r_aload_0 dX3_readLine_30 ?_
            refine r_getL dX3_readLine_31 fl_X3_88 rfl ?_
            rw [mw]
            refine r_ldc2 dX3_readLine_34 ks_X3_96 ?_
            refine r_lif_ne 47 dX3_readLine_37 dX3_readLine_38 (by decide) (fun c_37 => ?_) (fun c_37 => by exact absurd ((wk_i g h1 (i := 3) (by decide) kc3).mp c_37) w3)
            refine r_aload_0 dX3_readLine_47 ?_
            refine r_getL dX3_readLine_48 fl_X3_88 rfl ?_
            rw [mw]
            refine r_ldc2 dX3_readLine_51 ks_X3_101 ?_
            refine r_lif_ne 64 dX3_readLine_54 dX3_readLine_55 (by decide) (fun c_54 => ?_) (fun c_54 => by exact absurd ((wk_i g h1 (i := 4) (by decide) kc4).mp c_54) w4)
            refine r_aload_0 dX3_readLine_64 ?_
            refine r_getL dX3_readLine_65 fl_X3_88 rfl ?_
            rw [mw]
            refine r_ldc2 dX3_readLine_68 ks_X3_103 ?_
            refine r_lif_ne 82 dX3_readLine_71 dX3_readLine_72 (by decide) (fun c_71 => ?_) (fun c_71 => by exact absurd ((wk_i g h1 (i := 5) (by decide) kc5).mp c_71) w5)
            refine r_aload_0 dX3_readLine_82 ?_
            refine r_iconst (v := 1) dX3_readLine_83 (by decide) ?_
            refine r_cV1 mX3_blame dX3_readLine_84 ml_X3_51 mo_X3_blame rfl (k_blame h 1) (by decide) ?_
            refine r_zret dX3_readLine_87 rfl rfl ?_
            exact ⟨(by first | rfl | exact congrArg (fun x => some (Value.int x)) (b2i_f (show ¬ ((1 : Int32) = 0) by decide)).symm), fun q => absurd q (show ¬ ((1 : Int32) = 0) by decide), fun _ => c.bad _, fc_b Fr.rf⟩
  · have e : spLine B n k t nm = (1, k, t, nm) := by unfold spLine; rw [if_neg (fun q => h1 q.1), if_neg (fun q => h1 q.1), if_neg (fun q => h1 q.1), if_neg (fun q => h1 q.1)]
    rw [e]
    refine r_aload_0 dX3_readLine_0 ?_
    refine r_getI dX3_readLine_1 fl_X3_42 rfl ?_
    rw [m1]
    refine r_iconst (v := 1) dX3_readLine_4 (by decide) ?_
    refine r_icmp_eq 14 dX3_readLine_5 (by decide) (fun c_5 => by exact absurd (nI_jn (b := 1) (by omega) (by omega) c_5) h1) (fun c_5 => ?_)
    refine r_aload_0 dX3_readLine_8 ?_
    refine r_iconst (v := 1) dX3_readLine_9 (by decide) ?_
    refine r_cV1 mX3_blame dX3_readLine_10 ml_X3_51 mo_X3_blame rfl (k_blame h 1) (by decide) ?_
    refine r_zret dX3_readLine_13 rfl rfl ?_
    exact ⟨(by first | rfl | exact congrArg (fun x => some (Value.int x)) (b2i_f (show ¬ ((1 : Int32) = 0) by decide)).symm), fun q => absurd q (show ¬ ((1 : Int32) = 0) by decide), fun _ => c.bad _, fc_b Fr.rf⟩

