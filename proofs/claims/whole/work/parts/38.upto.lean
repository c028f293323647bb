/-! ===== the class: Waters.sweepUpTo, whole ===== -/
def HK (w : Nat) (h h' : PH) : Prop := (∀ y, y ≠ w → h'.1 y = h.1 y) ∧ (∀ k, k ≠ 7 → k ≠ 11 → h'.1 w k = h.1 w k) ∧ Fr (fun y => y = w ∨ y = w + 22 ∨ y = w + 25) h h'
theorem HK.rf {w : Nat} {h : PH} : HK w h h := ⟨fun _ _ => rfl, fun _ _ _ => rfl, Fr.rf⟩
theorem HK.tr {w : Nat} {h h' h'' : PH} (a : HK w h h') (b : HK w h' h'') : HK w h h'' := ⟨fun y hy => (b.1 y hy).trans (a.1 y hy), fun k h1 h2 => (b.2.1 k h1 h2).trans (a.2.1 k h1 h2), a.2.2.tr b.2.2⟩
theorem HK.sw {w : Nat} {h h' : PH} {f : FL} (s : SWQ w h h' f) : HK w h h' := ⟨fun y _ => by rw [s.2.1], fun k _ _ => by rw [s.2.1], s.2.2.wk (fun x q => Or.inr (Or.inl q))⟩
theorem HK.p11 {w : Nat} {h : PH} {x : Int32} : HK w h (pI h w 11 x) := ⟨fun y hy => funext fun j => pI_ne y j (Or.inl hy), fun k _ h2 => pI_ne w k (Or.inr h2), Fr.rf.pI (Or.inl rfl)⟩
theorem HK.kp {w : Nat} {h h' : PH} (k : KPT w h h') : HK w h h' := ⟨k.2.2.2.1, fun j h1 _ => k.2.2.1 j h1, k.2.2.2.2.wk (fun x q => q.elim Or.inl (fun z => Or.inr (Or.inr z)))⟩
theorem NetC.hk {w : Nat} {h h' : PH} {t : NT} (c : NetC h (w + 1) t) (k : HK w h h') : NetC h' (w + 1) t := by
  have g : ∀ j, h'.1 (w + 1 + j) = h.1 (w + 1 + j) := fun j => k.1 _ (by omega)
  have g0 : h'.1 (w + 1) = h.1 (w + 1) := g 0
  unfold NetC; rw [g0, g 2, g 3, g 4, g 5, g 6, g 7, g 8, g 9]; exact c
theorem RingsC.hk {w : Nat} {h h' : PH} {R : List RG} (c : RingsC h (w + 17) R) (k : HK w h h') : RingsC h' (w + 17) R := by
  have g : ∀ j, h'.1 (w + 17 + j) = h.1 (w + 17 + j) := fun j => k.1 _ (by omega)
  have g0 : h'.1 (w + 17) = h.1 (w + 17) := g 0
  unfold RingsC RAt; rw [g0, g 1, g 2, g 3]; exact c
theorem TreeC.hk {w : Nat} {h h' : PH} {fi se : Nat → Nat} {s : TS} (c : TreeC h (w + 11) fi se s) (k : HK w h h') : TreeC h' (w + 11) fi se s := by
  have g : ∀ j, h'.1 (w + 11 + j) = h.1 (w + 11 + j) := fun j => k.1 _ (by omega)
  have g0 : h'.1 (w + 11) = h.1 (w + 11) := g 0
  unfold TreeC; rw [g0, g 1, g 2, g 3, g 4, g 5]; exact c
set_option maxRecDepth 100000 in
set_option maxHeartbeats 4000000 in
theorem sweep_out {w : Nat} (hW : isW w) {t : NT} (ok : okT t) (sh : Int32) {lim : Nat} (hl : lim ≤ 60) (h0 : PH) : ∀ (m n k0 : Nat) (h : PH), n + m = lim → k0 ≤ n → h.1 w 11 = nI n → h.1 w 7 = nI k0 → (∀ i, i < n → (gS (snOf t) sh (itS (snOf t) sh i)).2 = true) → (∀ e, e < 14 → h.2 (w + 22) e = itS (snOf t) sh n e) → (∀ e, e < 14 → h.2 (w + 25) e = itS (snOf t) sh k0 e) → NetC h (w + 1) t → RingsC h (w + 17) (rgS (snOf t) sh) → HK w h0 h → RT mX6_sweepUpTo 3 11 [some (.ref w), some (.int (nI lim)), some (.int 1), none, none, none] [] h (fun a h' => a = none ∧ ((∀ e, e < 14 → h'.2 (w + 22) e = (flS (snOf t) sh lim).1 e) ∧ h'.1 w 11 = nI (flS (snOf t) sh lim).2 ∧ HK w h0 h')) := by
  have hE14 := ok.2.2.1
  intro m
  induction m using Nat.strongRecOn with
  | ind m ih =>
    intro n k0 h hn hk s1 s2 mv hf hkf nc rc hk0
    by_cases hm : m = 0
    · refine r_iload_2 dX6_sweepUpTo_11 ?_
      refine r_if_eq 122 dX6_sweepUpTo_12 (by decide) (fun c_12 => by exact absurd c_12 (by decide)) (fun c_12 => ?_)
      refine r_aload_0 dX6_sweepUpTo_15 ?_
      refine r_getI dX6_sweepUpTo_16 fl_X6_118 (hW.s 0 (by decide)) ?_
      rw [s1]
      refine r_iload_1 dX6_sweepUpTo_19 ?_
      refine r_icmpN_ge 122 dX6_sweepUpTo_20 (by decide) (by omega) (by omega) (fun c_20 => ?_) (fun c_20 => by omega)
      refine r_vret dX6_sweepUpTo_122 rfl ?_
      have hnl : n = lim := by omega
      subst hnl
      have hfs : flS (snOf t) sh n = (itS (snOf t) sh n, 0 + n) := swl_all n 0 (bgS (snOf t) sh) mv
      exact ⟨rfl, by rw [hfs]; exact hf, by rw [hfs, s1]; simp, hk0⟩
    · have hit : itS (snOf t) sh (n + 1) = (gS (snOf t) sh (itS (snOf t) sh n)).1 := itr_succ _ n _
      have fbn := (ok.ok.it sh (k := n) (by omega)).1
      have K : ∀ h', SWQ w h h' (itS (snOf t) sh (n + 1)) → RT mX6_sweepUpTo 3 87 [some (.ref w), some (.int (nI lim)), some (.int (bI (gS (snOf t) sh (itS (snOf t) sh n)).2)), none, none, none] [] h' (fun a h' => a = none ∧ ((∀ e, e < 14 → h'.2 (w + 22) e = (flS (snOf t) sh lim).1 e) ∧ h'.1 w 11 = nI (flS (snOf t) sh lim).2 ∧ HK w h0 h')) := by
        intro h' sw
        have s1' : h'.1 w 11 = nI n := by rw [sw.2.1]; exact s1
        have s2' : h'.1 w 7 = nI k0 := by rw [sw.2.1]; exact s2
        have hk1 : HK w h (pI h' w 11 (nI (n + 1))) := (HK.sw sw).tr HK.p11
        have nc1 := nc.hk hk1
        have rc1 := rc.hk hk1
        have t1 : (pI h' w 11 (nI (n + 1))).1 w 11 = nI (n + 1) := pI_eq
        have t2 : (pI h' w 11 (nI (n + 1))).1 w 7 = nI k0 := by rw [pI_ne w 7 (Or.inr (by decide))]; exact s2'
        have hkf1 : ∀ e, e < 14 → (pI h' w 11 (nI (n + 1))).2 (w + 25) e = itS (snOf t) sh k0 e := fun e he => by
          rw [pI_2, (sw.2.2 (w + 25) (fun q => absurd q (by omega))).2]; exact hkf e he
        by_cases hmv : (gS (snOf t) sh (itS (snOf t) sh n)).2 = true
        · rw [hmv]
          refine r_aload_0 dX6_sweepUpTo_87 ?_
          refine r_dupr dX6_sweepUpTo_88 ?_
          refine r_getI dX6_sweepUpTo_89 fl_X6_118 (hW.s 0 (by decide)) ?_
          rw [s1']
          refine r_iconst (v := 1) dX6_sweepUpTo_92 (by decide) ?_
          refine r_iadd dX6_sweepUpTo_93 ?_
          rw [nI_1]
          refine r_putI dX6_sweepUpTo_94 fl_X6_118 (hW.s 0 (by decide)) rfl rfl ?_
          refine r_aload_0 dX6_sweepUpTo_97 ?_
          refine r_dupr dX6_sweepUpTo_98 ?_
          refine r_getI dX6_sweepUpTo_99 fl_X6_118 (hW.s 0 (by decide)) ?_
          rw [pI_eq]
          refine r_iload_2 dX6_sweepUpTo_102 ?_
          refine r_if_eq 114 dX6_sweepUpTo_103 (by decide) (fun c_103 => by exact absurd c_103 (by decide)) (fun c_103 => ?_)
          refine r_aload_0 dX6_sweepUpTo_106 ?_
          refine r_iload_1 dX6_sweepUpTo_107 ?_
          refine r_callVQ1 (M' := mX6_sweepsToLeaveOut) dX6_sweepUpTo_108 ml_X6_152 mo_X6_sweepsToLeaveOut (hW.s 0 (by decide)) (k_leaveOut hW ok nc1 (n := n + 1) (k0 := k0) (lim := lim) (by omega) hl (by omega) t1 t2) (by decide) (fun r h2 p2 => ?_)
          obtain ⟨dd, rfl, p2⟩ := p2
          show RT _ _ _ _ (.int (nI dd) :: _) _ _
          refine r_goto 115 dX6_sweepUpTo_111 (by decide) ?_
          refine r_iadd dX6_sweepUpTo_115 ?_
          rw [nI_add]
          refine r_putI dX6_sweepUpTo_116 fl_X6_118 (hW.s 0 (by decide)) rfl rfl ?_
          refine r_goto 11 dX6_sweepUpTo_119 (by decide) ?_
          rcases p2 with ⟨q1, q2, q3, rfl⟩ | ⟨rfl, q⟩
          · have hsame : itS (snOf t) sh (n + 1) = itS (snOf t) sh k0 := by
              have ha := akS_iff.mp q2
              funext e
              by_cases he : e < NT.E t
              · have := ha e he
                rw [hkf1 e (by omega)] at this
                rw [← this, pI_2]; exact (sw.1 e (by omega)).symm
              · have z1 := (ok.ok.it sh (k := n + 1) (by omega)).2 e (by simp only [gl]; rw [decide_eq_false (show ¬ e < SN.E (snOf t) from he)]; rfl)
                have z2 := (ok.ok.it sh (k := k0) (by omega)).2 e (by simp only [gl]; rw [decide_eq_false (show ¬ e < SN.E (snOf t) from he)]; rfl)
                rw [z1, z2]
            have hmv' : ∀ i, (gS (snOf t) sh (itS (snOf t) sh i)).2 = true := itr_ever (fun x => (gS (snOf t) sh x).1) (fun x => (gS (snOf t) sh x).2 = true) q1 hsame (fun i hi => by
              by_cases z : i = n
              · subst z; exact hmv
              · exact mv i (by omega))
            have hle : dd ≤ lim - (n + 1) := by rw [q3]; exact Nat.div_mul_le_self _ _
            have hit2 : itS (snOf t) sh (n + 1 + dd) = itS (snOf t) sh (n + 1) := by rw [q3]; exact itr_circle (fun x => (gS (snOf t) sh x).1) q1 hsame _
            refine ih (m - 1 - dd) (by omega) (n + 1 + dd) k0 _ (by omega) (by omega) pI_eq ?_ (fun i _ => hmv' i) (fun e he => ?_) (fun e he => ?_) (nc1.hk HK.p11) (rc1.hk HK.p11) ((hk0.tr hk1).tr HK.p11)
            · rw [pI_ne w 7 (Or.inr (by decide))]; exact t2
            · rw [pI_2, pI_2, hit2]; exact sw.1 e he
            · rw [pI_2]; exact hkf1 e he
          · rw [Nat.add_zero]
            have hmv1 : ∀ i, i < n + 1 → (gS (snOf t) sh (itS (snOf t) sh i)).2 = true := fun i hi => by
              by_cases z : i = n
              · subst z; exact hmv
              · exact mv i (by omega)
            rcases q with rfl | kp
            · refine ih (m - 1) (by omega) (n + 1) k0 _ (by omega) (by omega) pI_eq ?_ hmv1 (fun e he => ?_) (fun e he => ?_) (nc1.hk HK.p11) (rc1.hk HK.p11) ((hk0.tr hk1).tr HK.p11)
              · rw [pI_ne w 7 (Or.inr (by decide))]; exact t2
              · rw [pI_2, pI_2]; exact sw.1 e he
              · rw [pI_2]; exact hkf1 e he
            · refine ih (m - 1) (by omega) (n + 1) (n + 1) _ (by omega) (by omega) pI_eq ?_ hmv1 (fun e he => ?_) (fun e he => ?_) ((nc1.hk (HK.kp kp)).hk HK.p11) ((rc1.hk (HK.kp kp)).hk HK.p11) (((hk0.tr hk1).tr (HK.kp kp)).tr HK.p11)
              · rw [pI_ne w 7 (Or.inr (by decide)), kp.2.1]; exact t1
              · rw [pI_2, (kp.2.2.2.2 (w + 22) (fun z => by rcases z with z | z <;> omega)).2, pI_2]; exact sw.1 e he
              · rw [pI_2, kp.1 e he, pI_2]; exact sw.1 e he
        · rw [show (gS (snOf t) sh (itS (snOf t) sh n)).2 = false by simpa using hmv]
          refine r_aload_0 dX6_sweepUpTo_87 ?_
          refine r_dupr dX6_sweepUpTo_88 ?_
          refine r_getI dX6_sweepUpTo_89 fl_X6_118 (hW.s 0 (by decide)) ?_
          rw [s1']
          refine r_iconst (v := 1) dX6_sweepUpTo_92 (by decide) ?_
          refine r_iadd dX6_sweepUpTo_93 ?_
          rw [nI_1]
          refine r_putI dX6_sweepUpTo_94 fl_X6_118 (hW.s 0 (by decide)) rfl rfl ?_
          refine r_aload_0 dX6_sweepUpTo_97 ?_
          refine r_dupr dX6_sweepUpTo_98 ?_
          refine r_getI dX6_sweepUpTo_99 fl_X6_118 (hW.s 0 (by decide)) ?_
          rw [pI_eq]
          refine r_iload_2 dX6_sweepUpTo_102 ?_
          refine r_if_eq 114 dX6_sweepUpTo_103 (by decide) (fun c_103 => ?_) (fun c_103 => by exact absurd rfl c_103)
          refine r_iconst (v := 0) dX6_sweepUpTo_114 (by decide) ?_
          refine r_iadd dX6_sweepUpTo_115 ?_
          refine r_putI dX6_sweepUpTo_116 fl_X6_118 (hW.s 0 (by decide)) rfl rfl ?_
          refine r_goto 11 dX6_sweepUpTo_119 (by decide) ?_
          refine r_iload_2 dX6_sweepUpTo_11 ?_
          refine r_if_eq 122 dX6_sweepUpTo_12 (by decide) (fun c_12 => ?_) (fun c_12 => by exact absurd rfl c_12)
          refine r_vret dX6_sweepUpTo_122 rfl ?_
          have hmvf : (gS (snOf t) sh (itS (snOf t) sh n)).2 = false := by simpa using hmv
          have hfs : flS (snOf t) sh lim = (itS (snOf t) sh (n + 1), 0 + n + 1) := swl_stop n lim 0 (bgS (snOf t) sh) (by omega) mv hmvf
          refine ⟨rfl, fun e he => ?_, ?_, (hk0.tr hk1).tr HK.p11⟩
          · rw [hfs, pI_2, pI_2]; exact sw.1 e he
          · rw [hfs, pI_eq]; exact Int32.add_zero _ |>.trans (by rw [Nat.zero_add])
      refine r_iload_2 dX6_sweepUpTo_11 ?_
      refine r_if_eq 122 dX6_sweepUpTo_12 (by decide) (fun c_12 => by exact absurd c_12 (by decide)) (fun c_12 => ?_)
      refine r_aload_0 dX6_sweepUpTo_15 ?_
      refine r_getI dX6_sweepUpTo_16 fl_X6_118 (hW.s 0 (by decide)) ?_
      rw [s1]
      refine r_iload_1 dX6_sweepUpTo_19 ?_
      refine r_icmpN_ge 122 dX6_sweepUpTo_20 (by decide) (by omega) (by omega) (fun c_20 => by omega) (fun c_20 => ?_)
      refine r_iconst (v := bI false) dX6_sweepUpTo_23 (by decide) ?_
      refine r_istore_2 dX6_sweepUpTo_24 ?_
      refine r_iconst (v := nI 0) dX6_sweepUpTo_25 (by decide) ?_
      refine r_istore_3 dX6_sweepUpTo_26 ?_
      refine sweep_in hW ok sh lim nc rc (rgS (snOf t) sh).length 0 (itS (snOf t) sh n, false) h (by omega) (fbn.mono (by omega)) ⟨hf, rfl, Fr.rf⟩ (fun h' sw => ?_)
      rw [List.drop_zero] at sw ⊢
      exact K h' (by rw [hit]; exact sw)

set_option maxRecDepth 100000 in
set_option maxHeartbeats 4000000 in
theorem k_sweepUpTo {w : Nat} (hW : isW w) {t : NT} (ok : okT t) (sh : Int32) {lim : Nat} (hl : lim ≤ 60) {h : PH} (nc : NetC h (w + 1) t) (rc : RingsC h (w + 17) (rgS (snOf t) sh)) (hf : ∀ e, e < 14 → h.2 (w + 22) e = bgS (snOf t) sh e) : Con mX6_sweepUpTo 3 [.ref w, .int (nI lim)] h (fun a h' => a = none ∧ ((∀ e, e < 14 → h'.2 (w + 22) e = (flS (snOf t) sh lim).1 e) ∧ h'.1 w 11 = nI (flS (snOf t) sh lim).2 ∧ HK w h h')) := by
  refine Con.mk (by decide) ?_
  show RT _ _ 0 [some (.ref w), some (.int (nI lim)), none, none, none, none] [] _ _
  refine r_aload_0 dX6_sweepUpTo_0 ?_
  refine r_iconst (v := nI 0) dX6_sweepUpTo_1 (by decide) ?_
  refine r_putI dX6_sweepUpTo_2 fl_X6_118 (hW.s 0 (by decide)) rfl rfl ?_
  refine r_aload_0 dX6_sweepUpTo_5 ?_
  refine r_cWQ0 mX6_keepFlows dX6_sweepUpTo_6 ml_X6_121 mo_X6_keepFlows (hW.s 0 (by decide)) (k_keepFlows hW _) (by decide) (fun h1 kp => ?_)
  refine r_iconst (v := 1) dX6_sweepUpTo_9 (by decide) ?_
  refine r_istore_2 dX6_sweepUpTo_10 ?_
  have hk1 : HK w h h1 := (HK.p11 (x := nI 0)).tr (HK.kp kp)
  refine sweep_out hW ok sh hl h lim 0 0 h1 (by omega) (Nat.le_refl _) (by rw [kp.2.2.1 11 (by decide)]; exact pI_eq) (by rw [kp.2.1]; exact pI_eq) (fun i hi => by omega) (fun e he => ?_) (fun e he => ?_) (nc.hk hk1) (rc.hk hk1) hk1
  · rw [(kp.2.2.2.2 (w + 22) (fun z => by rcases z with z | z <;> omega)).2, pI_2]; exact hf e he
  · rw [kp.1 e he, pI_2]; exact hf e he

