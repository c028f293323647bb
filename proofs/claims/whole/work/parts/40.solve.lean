/-! ===== the class: Waters.solve, sweepFirstRound ===== -/
def rgW (w : Nat) : Nat → Prop := fun y => y = w ∨ (w + 11 ≤ y ∧ y < w + 27)
def SolC (h : PH) (w : Nat) (t : NT) (x : Int32 × Nat × Bool) : Prop := NetC h (w + 1) t ∧ h.1 w 9 = x.1 ∧ h.1 w 10 = nI x.2.1 ∧ h.1 w 12 = bI x.2.2 ∧ h.1 w 11 = nI (flS (snOf t) x.1 60).2 ∧ TreeC h (w + 11) (NT.fi t) (NT.se t) (trS (snOf t) x.1) ∧ RingsC h (w + 17) (rgS (snOf t) x.1) ∧ (∀ e, e < 14 → h.2 (w + 22) e = (flS (snOf t) x.1 60).1 e) ∧ (∀ i, i < (trS (snOf t) x.1).1 → h.2 (w + 23) ((trS (snOf t) x.1).2.1 i) = hdS (snOf t) x.1 ((trS (snOf t) x.1).2.1 i))
/-- behind a ROUND -/
def RndC (h0 h : PH) (w : Nat) (t : NT) (sh : Int32) : Prop := NetC h (w + 1) t ∧ (∀ k, k ≠ 7 → k ≠ 11 → h.1 w k = h0.1 w k) ∧ h.1 w 11 = nI (flS (snOf t) sh 60).2 ∧ TreeC h (w + 11) (NT.fi t) (NT.se t) (trS (snOf t) sh) ∧ RingsC h (w + 17) (rgS (snOf t) sh) ∧ (∀ e, e < 14 → h.2 (w + 22) e = (flS (snOf t) sh 60).1 e) ∧ (∀ i, i < (trS (snOf t) sh).1 → h.2 (w + 23) ((trS (snOf t) sh).2.1 i) = hdS (snOf t) sh ((trS (snOf t) sh).2.1 i)) ∧ h.1 (w + 26) = h0.1 (w + 26) ∧ Fr (rgW w) h0 h
theorem turn_lt {t : NT} {sh : Int32} {e : Nat} (h : turnS (snOf t) sh = some e) : e < NT.E t := by
  unfold turnS at h
  cases q : wrongS (snOf t) sh with
  | some x =>
    rw [q] at h; cases h
    have := fnd_lt q
    have z : e < 0 + NT.E t := this.2.1
    omega
  | none =>
    rw [q] at h
    have := fnd_lt h
    have z : e < 0 + NT.E t := this.2.1
    omega
def lowB (sh : Int32) : Prop := ∀ i, 14 ≤ i → i < 32 → bt sh i = false
theorem lowB_n {sh : Int32} (h : lowB sh) : sh ≠ -1 := fun q => by
  have := h 31 (by omega) (by omega)
  rw [q, b_m1 31 (by omega)] at this
  cases this
theorem nxtS_some {n : SN} {sh : Int32} {e : Nat} (h : turnS n sh = some e) : nxtS n sh = flipS sh e := by unfold nxtS; rw [h]
theorem nxtS_none {n : SN} {sh : Int32} (h : turnS n sh = none) : nxtS n sh = sh := by unfold nxtS; rw [h]
theorem lowB_it {t : NT} (ok : okT t) : ∀ n, lowB (itr (nxtS (snOf t)) n 0)
  | 0 => fun i _ _ => b_0 i
  | n + 1 => by
    rw [itr_succ]
    have ih := lowB_it ok n
    cases q : turnS (snOf t) (itr (nxtS (snOf t)) n 0) with
    | none => rw [nxtS_none q]; exact ih
    | some e =>
      rw [nxtS_some q]
      have he := turn_lt q
      have hE := ok.2.2.1
      intro i h1 h2
      show bt (flipS _ e) i = false
      unfold flipS
      rw [b_flip _ (by omega) h2, ih i h1 h2, decide_eq_false (by omega)]; rfl
set_option maxRecDepth 100000 in
set_option maxHeartbeats 4000000 in
theorem k_round {w : Nat} (hW : isW w) {t : NT} (ok : okT t) {sh : Int32} {h : PH} (nc : NetC h (w + 1) t) (hs : h.1 w 9 = sh) {lv : List (Option Value)} (hlv : lv = [some (.ref w), none]) {Q : Option Value → PH → Prop} (K : ∀ h', RndC h h' w t sh → RT mX6_solve 5 80 [some (.ref w), none] [.int (oI (turnS (snOf t) sh))] h' Q) : RT mX6_solve 5 62 [some (.ref w), none] [] h Q := by
  subst hs
  refine r_aload_0 dX6_solve_62 ?_
  refine r_cWQ0 mX6_beginRound dX6_solve_63 ml_X6_66 mo_X6_beginRound (hW.s 0 (by decide)) (k_beginRound hW ok nc) (by decide) (fun h1 p1 => ?_)
  obtain ⟨nc1, tc1, rc1, fl1, f1⟩ := p1
  generalize hsh : h.1 w 9 = sh at *
  refine r_aload_0 dX6_solve_66 ?_
  refine r_bipush (v := nI 60) dX6_solve_67 (by decide) ?_
  refine r_cWQ1 mX6_sweepUpTo dX6_solve_69 ml_X6_69 mo_X6_sweepUpTo (hW.s 0 (by decide)) (k_sweepUpTo hW ok sh (Nat.le_refl 60) nc1 rc1 fl1) (by decide) (fun h2 p2 => ?_)
  obtain ⟨fl2, sw2, hk2⟩ := p2
  have nc2 := nc1.hk hk2
  have tc2 := tc1.hk hk2
  have rc2 := rc1.hk hk2
  refine r_aload_0 dX6_solve_72 ?_
  refine r_cWQ0 mX6_findHeads dX6_solve_73 ml_X6_73 mo_X6_findHeads (hW.s 0 (by decide)) (k_findHeads hW ok sh _ nc2 tc2 fl2) (by decide) (fun h3 p3 => ?_)
  obtain ⟨hd3, e3, f3⟩ := p3
  have fw1 : h1.1 w = h.1 w := (f1 w (fun q => by rcases q with q | q <;> omega)).1
  have hs3 : h3.1 w 9 = sh := by rw [e3, hk2.2.1 9 (by decide) (by decide), fw1]; exact hsh
  have fl3 : ∀ e, e < 14 → h3.2 (w + 22) e = (flS (snOf t) sh 60).1 e := fun e he => by rw [(f3 (w + 22) (fun q => absurd q (by omega))).2]; exact fl2 e he
  refine r_aload_0 dX6_solve_76 ?_
  refine r_cV0 mX6_edgeToTurn dX6_solve_77 ml_X6_76 mo_X6_edgeToTurn (hW.s 0 (by decide)) (k_edgeToTurn hW ok sh (nc2.ext e3) (tc2.ext e3) hd3 hs3 fl3) (by decide) ?_
  refine K h3 ⟨nc2.ext e3, fun k k1 k2 => by rw [e3, hk2.2.1 k k1 k2, fw1], by rw [e3]; exact sw2, tc2.ext e3, rc2.ext e3, fl3, hd3, ?_, ?_⟩
  · rw [e3, hk2.1 (w + 26) (by omega)]
    exact (f1 (w + 26) (fun q => by rcases q with q | q <;> omega)).1
  · exact ((f1.wk (fun x q => Or.inr (by rcases q with q | q <;> omega))).tr (hk2.2.2.wk (fun x q => by rcases q with q | q | q; exact Or.inl q; exact Or.inr ⟨by omega, by omega⟩; exact Or.inr ⟨by omega, by omega⟩))).tr (f3.wk (fun x q => Or.inr ⟨by omega, by omega⟩))

set_option maxRecDepth 100000 in
set_option maxHeartbeats 4000000 in
theorem solve_loop {w : Nat} (hW : isW w) {t : NT} (ok : okT t) (h0 : PH) : ∀ (m r : Nat) (h : PH), r + m = 20 → 0 < m → NetC h (w + 1) t → h.1 w 9 = (itr (nxtS (snOf t)) r 0) → h.1 w 10 = nI r → h.1 w 12 = 0 → (∀ i, i < r → (turnS (snOf t) (itr (nxtS (snOf t)) i 0)).isSome = true) → (∀ j, 1 ≤ j → j ≤ 20 → h.1 (w + 26) j = -1 ∨ (j ≤ r ∧ h.1 (w + 26) j = itr (nxtS (snOf t)) (j - 1) 0)) → Fr (rgW w) h0 h → RT mX6_solve 5 23 [some (.ref w), none] [] h (fun a h' => a = none ∧ (SolC h' w t (solveS (snOf t)) ∧ Fr (rgW w) h0 h')) := by
  have hE14 := ok.2.2.1
  intro m
  induction m using Nat.strongRecOn with
  | ind m ih =>
    intro r h hm h0m nc s9 s10 s12 hso hinv fr
    have fw : rgW w w := Or.inl rfl
    have hA : Fr (rgW w) h (pI (pI h w 10 (nI (r + 1))) (w + 26) (r + 1) (itr (nxtS (snOf t)) r 0)) := (Fr.rf.pI fw).pI (Or.inr ⟨by omega, by omega⟩)
    have ncA : NetC (pI (pI h w 10 (nI (r + 1))) (w + 26) (r + 1) (itr (nxtS (snOf t)) r 0)) (w + 1) t := nc.fr hA (fun j hj q => by rcases q with q | q <;> omega)
    have a9 : (pI (pI h w 10 (nI (r + 1))) (w + 26) (r + 1) (itr (nxtS (snOf t)) r 0)).1 w 9 = (itr (nxtS (snOf t)) r 0) := by rw [pI_ne w 9 (Or.inl (by omega)), pI_ne w 9 (Or.inr (by decide))]; exact s9
    have a10 : (pI (pI h w 10 (nI (r + 1))) (w + 26) (r + 1) (itr (nxtS (snOf t)) r 0)).1 w 10 = nI (r + 1) := by rw [pI_ne w 10 (Or.inl (by omega))]; exact pI_eq
    have a12 : (pI (pI h w 10 (nI (r + 1))) (w + 26) (r + 1) (itr (nxtS (snOf t)) r 0)).1 w 12 = 0 := by rw [pI_ne w 12 (Or.inl (by omega)), pI_ne w 12 (Or.inr (by decide))]; exact s12
    have K : ∀ h', RndC (pI (pI h w 10 (nI (r + 1))) (w + 26) (r + 1) (itr (nxtS (snOf t)) r 0)) h' w t (itr (nxtS (snOf t)) r 0) → RT mX6_solve 5 80 [some (.ref w), none] [.int (oI (turnS (snOf t) (itr (nxtS (snOf t)) r 0)))] h' (fun a h' => a = none ∧ (SolC h' w t (solveS (snOf t)) ∧ Fr (rgW w) h0 h')) := by
      intro h' rd
      obtain ⟨nc', k', sw', tc', rc', fl', hd', s26', f'⟩ := rd
      have b9 : h'.1 w 9 = (itr (nxtS (snOf t)) r 0) := (k' 9 (by decide) (by decide)).trans a9
      have b10 : h'.1 w 10 = nI (r + 1) := (k' 10 (by decide) (by decide)).trans a10
      have b12 : h'.1 w 12 = 0 := (k' 12 (by decide) (by decide)).trans a12
      have b26 : ∀ j, 1 ≤ j → j ≤ 20 → h'.1 (w + 26) j = -1 ∨ (j ≤ r + 1 ∧ h'.1 (w + 26) j = itr (nxtS (snOf t)) (j - 1) 0) := by
        intro j j1 j2
        rw [s26', pI_1]
        by_cases q : j = r + 1
        · right; rw [if_pos ⟨rfl, q⟩, q]; exact ⟨Nat.le_refl _, rfl⟩
        · rw [if_neg (fun z => q z.2), pI_ne (w + 26) j (Or.inl (by omega))]
          rcases hinv j j1 j2 with z | z
          · exact Or.inl z
          · exact Or.inr ⟨by omega, z.2⟩
      cases ht : turnS (snOf t) (itr (nxtS (snOf t)) r 0) with
      | none =>
        refine r_istore_1 dX6_solve_80 ?_
        refine r_iload_1 dX6_solve_81 ?_
        refine r_iconst (v := (-1)) dX6_solve_82 (by decide) ?_
        refine r_icmp_ne 94 dX6_solve_83 (by decide) (fun c_83 => by exact absurd rfl c_83) (fun c_83 => ?_)
        refine r_aload_0 dX6_solve_86 ?_
        refine r_iconst (v := 1) dX6_solve_87 (by decide) ?_
        refine r_putZ dX6_solve_88 fl_X6_56 (hW.s 0 (by decide)) rfl rfl (by first | exact Or.inl rfl | exact Or.inr rfl) ?_
        refine r_goto 128 dX6_solve_91 (by decide) ?_
        refine r_goto 23 dX6_solve_128 (by decide) ?_
        refine r_aload_0 dX6_solve_23 ?_
        refine r_getI dX6_solve_24 fl_X6_56 (hW.s 0 (by decide)) ?_
        rw [pI_eq]
        refine r_if_ne 131 dX6_solve_27 (by decide) (fun c_27 => ?_) (fun c_27 => by exact absurd c_27 (by decide))
        refine r_vret dX6_solve_131 rfl ?_
        have hsol : solveS (snOf t) = ((itr (nxtS (snOf t)) r 0), 0 + r + 1, true) := slv_rest r 20 0 0 (by omega) hso ht
        rw [Nat.zero_add] at hsol
        have hk12 : ∀ k, k ≠ 12 → (pI h' w 12 1).1 w k = h'.1 w k := fun k hk => pI_ne w k (Or.inr hk)
        have fN : Fr (fun y => y = w) h' (pI h' w 12 1) := Fr.rf.pI rfl
        refine ⟨rfl, ?_, (fr.tr hA).tr (f'.pI fw)⟩
        rw [hsol]
        exact ⟨nc'.fr fN (fun j hj q => by omega), (hk12 9 (by decide)).trans b9, (hk12 10 (by decide)).trans b10, pI_eq, (hk12 11 (by decide)).trans sw', tc'.fr fN (fun j hj q => by omega), rc'.fr fN (fun j hj q => by omega), fl', hd'⟩
      | some e =>
        have he := turn_lt ht
        have hso1 : ∀ i, i < r + 1 → (turnS (snOf t) (itr (nxtS (snOf t)) i 0)).isSome = true := fun i hi => by
          by_cases z : i = r
          · subst z; rw [ht]; rfl
          · exact hso i (by omega)
        have hnx : itr (nxtS (snOf t)) (r + 1) 0 = flipS (itr (nxtS (snOf t)) r 0) e := by rw [itr_succ, nxtS_some ht]
        show RT _ _ _ _ [.int (nI e)] _ _
        by_cases h20 : r + 1 = 20
        · refine r_istore_1 dX6_solve_80 ?_
          refine r_iload_1 dX6_solve_81 ?_
          refine r_iconst (v := (-1)) dX6_solve_82 (by decide) ?_
          refine r_icmp_ne 94 dX6_solve_83 (by decide) (fun c_83 => ?_) (fun c_83 => by exact absurd c_83 (nI_ne_m1 (by omega)))
          refine r_aload_0 dX6_solve_94 ?_
          refine r_getI dX6_solve_95 fl_X6_53 (hW.s 0 (by decide)) ?_
          rw [b10]
          refine r_bipush (v := nI 20) dX6_solve_98 (by decide) ?_
          refine r_icmpN_ge 128 dX6_solve_100 (by decide) (by omega) (by omega) (fun c_100 => ?_) (fun c_100 => by omega)
          refine r_goto 23 dX6_solve_128 (by decide) ?_
          refine r_aload_0 dX6_solve_23 ?_
          refine r_getI dX6_solve_24 fl_X6_56 (hW.s 0 (by decide)) ?_
          rw [b12]
          refine r_if_ne 131 dX6_solve_27 (by decide) (fun c_27 => by exact absurd rfl c_27) (fun c_27 => ?_)
          refine r_aload_0 dX6_solve_30 ?_
          refine r_getI dX6_solve_31 fl_X6_53 (hW.s 0 (by decide)) ?_
          rw [b10]
          refine r_bipush (v := nI 20) dX6_solve_34 (by decide) ?_
          refine r_icmpN_ge 131 dX6_solve_36 (by decide) (by omega) (by omega) (fun c_36 => ?_) (fun c_36 => by omega)
          refine r_vret dX6_solve_131 rfl ?_
          have hr19 : r = 19 := by omega
          subst hr19
          have hsol : solveS (snOf t) = (itr (nxtS (snOf t)) 19 0, 0 + 19 + 1, false) := slv_on 19 0 0 hso1
          refine ⟨rfl, ?_, (fr.tr hA).tr f'⟩
          rw [hsol]
          exact ⟨nc', b9, b10, b12, sw', tc', rc', fl', hd'⟩
        · refine r_istore_1 dX6_solve_80 ?_
          refine r_iload_1 dX6_solve_81 ?_
          refine r_iconst (v := (-1)) dX6_solve_82 (by decide) ?_
          refine r_icmp_ne 94 dX6_solve_83 (by decide) (fun c_83 => ?_) (fun c_83 => by exact absurd c_83 (nI_ne_m1 (by omega)))
          refine r_aload_0 dX6_solve_94 ?_
          refine r_getI dX6_solve_95 fl_X6_53 (hW.s 0 (by decide)) ?_
          rw [b10]
          refine r_bipush (v := nI 20) dX6_solve_98 (by decide) ?_
          refine r_icmpN_ge 128 dX6_solve_100 (by decide) (by omega) (by omega) (fun c_100 => by omega) (fun c_100 => ?_)
          refine r_aload_0 dX6_solve_103 ?_
          refine r_dupr dX6_solve_104 ?_
          refine r_getI dX6_solve_105 fl_X6_49 (hW.s 0 (by decide)) ?_
          rw [b9]
          refine r_iconst (v := 1) dX6_solve_108 (by decide) ?_
          refine r_iload_1 dX6_solve_109 ?_
          refine r_ishl dX6_solve_110 ?_
          refine r_ixor dX6_solve_111 ?_
          rw [show (itr (nxtS (snOf t)) r 0) ^^^ ((1 : Int32) <<< (nI e &&& 31)) = flipS (itr (nxtS (snOf t)) r 0) e from rfl]
          refine r_putI dX6_solve_112 fl_X6_49 (hW.s 0 (by decide)) rfl rfl ?_
          refine r_aload_0 dX6_solve_115 ?_
          refine r_dupr dX6_solve_116 ?_
          refine r_getI dX6_solve_117 fl_X6_53 (hW.s 0 (by decide)) ?_
          rw [pI_ne w 10 (Or.inr (by decide)), b10]
          refine r_aload_0 dX6_solve_120 ?_
          refine r_cV0 mX6_roundsToLeaveOut dX6_solve_121 ml_X6_80 mo_X6_roundsToLeaveOut (hW.s 0 (by decide)) (k_roundsToLeaveOut hW (R := r + 1) (by omega) ((pI_ne w 10 (Or.inr (by decide))).trans b10)) (by decide) ?_
          refine r_iadd dX6_solve_124 ?_
          rw [nI_add]
          refine r_putI dX6_solve_125 fl_X6_53 (hW.s 0 (by decide)) rfl rfl ?_
          refine r_goto 23 dX6_solve_128 (by decide) ?_
          refine RT.sub (lv' := [some (.ref w), none]) (by simp [lsub]) ?_
          have c26 : (pI h' w 9 (flipS (itr (nxtS (snOf t)) r 0) e)).1 (w + 26) = h'.1 (w + 26) := funext fun j => pI_ne _ j (Or.inl (by omega))
          have c9 : (pI h' w 9 (flipS (itr (nxtS (snOf t)) r 0) e)).1 w 9 = itr (nxtS (snOf t)) (r + 1) 0 := by rw [hnx]; exact pI_eq
          rw [c26, c9]
          cases hf : fnd (fun j => decide (h'.1 (w + 26) j = itr (nxtS (snOf t)) (r + 1) 0)) 1 (r + 1) with
          | none =>
            show RT _ _ _ _ _ (pI _ _ _ (nI (r + 1 + 0))) _
            refine ih (m - 1) (by omega) (r + 1) _ (by omega) (by omega) ?_ ?_ pI_eq ?_ hso1 ?_ ?_
            · exact nc'.fr ((Fr.rf.pI fw).pI fw) (fun j hj q => by rcases q with q | q <;> omega)
            · rw [pI_ne w 9 (Or.inr (by decide))]; exact c9
            · rw [pI_ne w 12 (Or.inr (by decide)), pI_ne w 12 (Or.inr (by decide))]; exact b12
            · intro j j1 j2
              rw [pI_ne (w + 26) j (Or.inl (by omega)), c26]
              exact b26 j j1 j2
            · exact (fr.tr hA).tr ((f'.pI fw).pI fw)
          | some j =>
            have fl := fnd_lt hf
            have hje := of_decide_eq_true fl.2.2
            have hja : h'.1 (w + 26) j = itr (nxtS (snOf t)) (j - 1) 0 := by
              rcases b26 j (by omega) (by omega) with z | z
              · exact absurd (hje.symm.trans z) (lowB_n (lowB_it ok (r + 1)))
              · exact z.2
            have hcir : itr (nxtS (snOf t)) (r + 1) 0 = itr (nxtS (snOf t)) (j - 1) 0 := hje.symm.trans hja
            have hper : r + 1 - (j - 1) = r + 1 + 1 - j := by omega
            have hev : ∀ i, (turnS (snOf t) (itr (nxtS (snOf t)) i 0)).isSome = true := itr_ever (nxtS (snOf t)) (fun x => (turnS (snOf t) x).isSome = true) (show j - 1 < r + 1 by omega) hcir hso1
            have hci := itr_circle (nxtS (snOf t)) (show j - 1 < r + 1 by omega) hcir ((20 - (r + 1) - 1) / (r + 1 + 1 - j))
            rw [hper] at hci
            have hle : (20 - (r + 1) - 1) / (r + 1 + 1 - j) * (r + 1 + 1 - j) ≤ 20 - (r + 1) - 1 := Nat.div_mul_le_self _ _
            show RT _ _ _ _ _ (pI _ _ _ (nI (r + 1 + (20 - (r + 1) - 1) / (r + 1 + 1 - j) * (r + 1 + 1 - j)))) _
            generalize (20 - (r + 1) - 1) / (r + 1 + 1 - j) * (r + 1 + 1 - j) = d at hci hle ⊢
            refine ih (20 - (r + 1 + d)) (by omega) (r + 1 + d) _ (by omega) (by omega) ?_ ?_ pI_eq ?_ (fun i _ => hev i) ?_ ?_
            · exact nc'.fr ((Fr.rf.pI fw).pI fw) (fun j hj q => by rcases q with q | q <;> omega)
            · rw [pI_ne w 9 (Or.inr (by decide)), hci]; exact c9
            · rw [pI_ne w 12 (Or.inr (by decide)), pI_ne w 12 (Or.inr (by decide))]; exact b12
            · intro j j1 j2
              rw [pI_ne (w + 26) j (Or.inl (by omega)), c26]
              rcases b26 j j1 j2 with z | z
              · exact Or.inl z
              · exact Or.inr ⟨by omega, z.2⟩
            · exact (fr.tr hA).tr ((f'.pI fw).pI fw)
    refine r_aload_0 dX6_solve_23 ?_
    refine r_getI dX6_solve_24 fl_X6_56 (hW.s 0 (by decide)) ?_
    rw [s12]
    refine r_if_ne 131 dX6_solve_27 (by decide) (fun c_27 => by exact absurd rfl c_27) (fun c_27 => ?_)
    refine r_aload_0 dX6_solve_30 ?_
    refine r_getI dX6_solve_31 fl_X6_53 (hW.s 0 (by decide)) ?_
    rw [s10]
    refine r_bipush (v := nI 20) dX6_solve_34 (by decide) ?_
    refine r_icmpN_ge 131 dX6_solve_36 (by decide) (by omega) (by omega) (fun c_36 => by omega) (fun c_36 => ?_)
    refine r_aload_0 dX6_solve_39 ?_
    refine r_dupr dX6_solve_40 ?_
    refine r_getI dX6_solve_41 fl_X6_53 (hW.s 0 (by decide)) ?_
    rw [s10]
    refine r_iconst (v := nI 1) dX6_solve_44 (by decide) ?_
    refine r_iadd dX6_solve_45 ?_
    rw [nI_add]
    refine r_putI dX6_solve_46 fl_X6_53 (hW.s 0 (by decide)) rfl rfl ?_
    refine r_aload_0 dX6_solve_49 ?_
    refine r_getR (a := (w + 26)) dX6_solve_50 fl_X6_45 (hW.s 0 (by decide)) rfl ?_
    refine r_aload_0 dX6_solve_53 ?_
    refine r_getI dX6_solve_54 fl_X6_53 (hW.s 0 (by decide)) ?_
    rw [pI_eq]
    refine r_aload_0 dX6_solve_57 ?_
    refine r_getI dX6_solve_58 fl_X6_49 (hW.s 0 (by decide)) ?_
    rw [pI_ne w 9 (Or.inr (by decide)), s9]
    refine r_iastN dX6_solve_61 (hW.s 26 (by decide)) (by omega) ?_
    exact k_round hW ok ncA a9 rfl K

set_option maxRecDepth 100000 in
set_option maxHeartbeats 4000000 in
theorem k_solve {w : Nat} (hW : isW w) {t : NT} (ok : okT t) {h : PH} (nc : NetC h (w + 1) t) : Con mX6_solve 5 [.ref w] h (fun a h' => a = none ∧ (SolC h' w t (solveS (snOf t)) ∧ Fr (rgW w) h h')) := by
  refine Con.mk (by decide) ?_
  show RT _ _ 0 [some (.ref w), none] [] _ _
  refine r_aload_0 dX6_solve_0 ?_
  refine r_iconst (v := 0) dX6_solve_1 (by decide) ?_
  refine r_putI dX6_solve_2 fl_X6_49 (hW.s 0 (by decide)) rfl rfl ?_
  refine r_aload_0 dX6_solve_5 ?_
  refine r_iconst (v := nI 0) dX6_solve_6 (by decide) ?_
  refine r_putI dX6_solve_7 fl_X6_53 (hW.s 0 (by decide)) rfl rfl ?_
  refine r_aload_0 dX6_solve_10 ?_
  refine r_iconst (v := 0) dX6_solve_11 (by decide) ?_
  refine r_putZ dX6_solve_12 fl_X6_56 (hW.s 0 (by decide)) rfl rfl (by first | exact Or.inl rfl | exact Or.inr rfl) ?_
  refine r_aload_0 dX6_solve_15 ?_
  refine r_getR (a := (w + 26)) dX6_solve_16 fl_X6_45 (hW.s 0 (by decide)) rfl ?_
  refine r_iconst (v := (-1)) dX6_solve_19 (by decide) ?_
  refine r_cT2 mJ7_fill_53178 dX6_solve_20 ml_X6_60 mo_J7_fill_53178 (k_fillI (hW.s 26 (by decide)) _ _) (by decide) ?_
  have fw : rgW w w := Or.inl rfl
  have fA : Fr (rgW w) h (pA (pI (pI (pI h w 9 0) w 10 (nI 0)) w 12 0) (w + 26) (fun k => if k < 21 then -1 else (pI (pI (pI h w 9 0) w 10 (nI 0)) w 12 0).1 (w + 26) k)) := (((Fr.rf.pI fw).pI fw).pI fw).pA (Or.inr ⟨by omega, by omega⟩)
  refine solve_loop hW ok h 20 0 _ (by omega) (by omega) (nc.fr fA (fun j hj q => by rcases q with q | q <;> omega)) ?_ ?_ ?_ (fun i hi => by omega) (fun j j1 j2 => Or.inl ?_) fA
  all_goals simp (decide := true) only [pI_1, pI_2, pL_1, pL_2, pA_1, pA_2, pB_1, pB_2, Nat.add_left_cancel_iff, Nat.add_right_cancel_iff, Nat.add_eq_left, Nat.left_eq_add, true_and, false_and, and_false, and_true, and_self, if_true, if_false, ite_true, ite_false]
  · rfl
  · rw [if_pos (by omega)]

set_option maxRecDepth 100000 in
set_option maxHeartbeats 4000000 in
theorem k_firstRound {w : Nat} (hW : isW w) {t : NT} (ok : okT t) {lim : Nat} (hl : lim ≤ 60) {h : PH} (nc : NetC h (w + 1) t) : Con mX6_sweepFirstRound 5 [.ref w, .int (nI lim)] h (fun a h' => a = none ∧ (NetC h' (w + 1) t ∧ RingsC h' (w + 17) (rgS (snOf t) 0) ∧ (∀ e, e < 14 → h'.2 (w + 22) e = (flS (snOf t) 0 lim).1 e) ∧ Fr (rgW w) h h')) := by
  refine Con.mk (by decide) ?_
  show RT _ _ 0 [some (.ref w), some (.int (nI lim))] [] _ _
  refine r_aload_0 dX6_sweepFirstRound_0 ?_
  refine r_iconst (v := 0) dX6_sweepFirstRound_1 (by decide) ?_
  refine r_putI dX6_sweepFirstRound_2 fl_X6_49 (hW.s 0 (by decide)) rfl rfl ?_
  refine r_aload_0 dX6_sweepFirstRound_5 ?_
  refine r_cWQ0 mX6_beginRound dX6_sweepFirstRound_6 ml_X6_66 mo_X6_beginRound (hW.s 0 (by decide)) (k_beginRound hW ok (nc.fr (Fr.rf.pI rfl : Fr (fun y => y = w) h (pI h w 9 0)) (fun j hj q => by omega))) (by decide) (fun h1 p1 => ?_)
  rw [pI_eq] at p1
  obtain ⟨nc1, tc1, rc1, fl1, f1⟩ := p1
  refine r_aload_0 dX6_sweepFirstRound_9 ?_
  refine r_iload_1 dX6_sweepFirstRound_10 ?_
  refine r_cWQ1 mX6_sweepUpTo dX6_sweepFirstRound_11 ml_X6_69 mo_X6_sweepUpTo (hW.s 0 (by decide)) (k_sweepUpTo hW ok 0 hl nc1 rc1 fl1) (by decide) (fun h2 p2 => ?_)
  obtain ⟨fl2, sw2, hk2⟩ := p2
  refine r_vret dX6_sweepFirstRound_14 rfl ?_
  exact ⟨rfl, nc1.hk hk2, rc1.hk hk2, fl2, (((Fr.rf.pI (Or.inl rfl) : Fr (rgW w) h (pI h w 9 0))).tr (f1.wk (fun x q => Or.inr (by rcases q with q | q <;> omega)))).tr (hk2.2.2.wk (fun x q => by rcases q with q | q | q; exact Or.inl q; exact Or.inr ⟨by omega, by omega⟩; exact Or.inr ⟨by omega, by omega⟩))⟩

