/-! ===== the class: Waters.beginRound ===== -/
def rgB (w : Nat) : Nat → Prop := fun y => (w + 11 ≤ y ∧ y < w + 23) ∨ y = w + 24
theorem way64 {se : Nat → Nat} {s : TS} {j : Nat} (x : Int64) : (wD se s j).toInt64 * x = if se (pe s j) = j then x else -x := by
  unfold wD
  split
  · rw [show (1 : Int32).toInt64 = 1 by decide +kernel, Int64.one_mul]
  · rw [show (-1 : Int32).toInt64 = -1 by decide +kernel, Int64.neg_mul, Int64.one_mul]
theorem bits_lt : ∀ E, E < 15 → ∀ e, e < 32 → bt ((1 : Int32) <<< (nI E &&& 31) - 1) e = decide (e < E) := by decide +kernel
theorem nw_t {w : Nat} (j : Nat) (hj : j < 10) : ¬ rgT (w + 11) (w + 1 + j) := fun q => by have := q.1; omega
theorem nw_r {w : Nat} (j : Nat) (hj : j < 10) : ¬ rgR (w + 17) (w + 1 + j) := fun q => by have := q.1; omega
theorem nw_b {w : Nat} (j : Nat) (hj : j < 10) : ¬ rgB w (w + 1 + j) := fun q => by rcases q with q | q <;> omega
theorem tw_r {w : Nat} (j : Nat) (hj : j < 6) : ¬ rgR (w + 17) (w + 11 + j) := fun q => by have := q.1; omega
theorem NetC.ext {h h' : PH} {o : Nat} {t : NT} (c : NetC h o t) (e : h'.1 = h.1) : NetC h' o t := by unfold NetC; rw [e]; exact c
theorem TreeC.ext {h h' : PH} {a : Nat} {fi se : Nat → Nat} {s : TS} (c : TreeC h a fi se s) (e : h'.1 = h.1) : TreeC h' a fi se s := by unfold TreeC; rw [e]; exact c
theorem RingsC.ext {h h' : PH} {r : Nat} {R : List RG} (c : RingsC h r R) (e : h'.1 = h.1) : RingsC h' r R := by unfold RingsC RAt; rw [e]; exact c
set_option maxRecDepth 100000 in
set_option maxHeartbeats 4000000 in
theorem bg_loop {w : Nat} (hW : isW w) {t : NT} (ok : okT t) (sh bits : Int32) (h0 hA : PH) (nc : NetC hA (w + 1) t) (tc : TreeC hA (w + 11) (NT.fi t) (NT.se t) (trS (snOf t) sh)) : ∀ (k : Nat) (x : FL × FL) (h : PH), k < (trS (snOf t) sh).1 → (∀ i, i ≤ k → h.2 (w + 24) ((trS (snOf t) sh).2.1 i) + (if 0 < i then drT t ((trS (snOf t) sh).2.1 i) else 0) = x.1 ((trS (snOf t) sh).2.1 i)) → (∀ e, e < 14 → h.2 (w + 22) e = x.2 e) → h.1 = hA.1 → Fr (rgB w) h0 h → RT mX6_beginRound 4 83 [some (.ref w), some (.int bits), some (.int (nI k)), none, none] [] h (fun a h' => a = none ∧ ((∀ e, e < 14 → h'.2 (w + 22) e = (bgL (NT.fi t) (NT.se t) (trS (snOf t) sh) k x).2 e) ∧ h'.1 = hA.1 ∧ Fr (rgB w) h0 h')) := by
  have hE14 := ok.2.2.1
  have hj9 := ok.2.1
  have tw := ok.tw sh
  have h9 := tw.le
  intro k
  induction k with
  | zero =>
    intro x h hk hc hf e1 fr
    refine r_iload_2 dX6_beginRound_83 ?_
    refine r_if_le 185 dX6_beginRound_84 (by decide) (fun c_84 => ?_) (fun c_84 => by exact absurd (show nI 0 ≤ 0 by decide) c_84)
    refine r_vret dX6_beginRound_185 rfl ?_
    exact ⟨rfl, hf, e1, fr⟩
  | succ k ih =>
    intro x h hk hc hf e1 fr
    obtain ⟨kp, hkp, hup, hpe, -⟩ := tw.up ok.ends ok.2.2.1 (show 0 < k + 1 by omega) hk
    have hj := (tw.1 (k + 1) hk).2
    have hj9' := (tw.1 (k + 1) hk).1
    have hjJ := ok.met sh hj
    have hj0 : (trS (snOf t) sh).2.1 (k + 1) ≠ 0 := fun q => by have := tw.2.1 (k + 1) 0 hk tw.2.2.2.1.1 (q.trans tw.2.2.2.1.2.symm); omega
    have ta := tc.at tw ok.ends ok.2.2.1 hj hj0
    have hq := tc.2.2.2.1 (k + 1) hk
    have hdr := (nc.2.2.2.2.1 _ hjJ).1
    have hu9 := (tw.1 kp (by omega)).1
    rw [← hup] at hu9
    have hcj := hc (k + 1) (Nat.le_refl _)
    rw [if_pos (by omega), show drT t ((trS (snOf t) sh).2.1 (k + 1)) = (NT.dr t ((trS (snOf t) sh).2.1 (k + 1))).toInt64 from if_pos hjJ] at hcj
    have hne : ¬ upj (NT.fi t) (NT.se t) (trS (snOf t) sh) ((trS (snOf t) sh).2.1 (k + 1)) = (trS (snOf t) sh).2.1 (k + 1) := fun q => by rw [hup] at q; have := tw.2.1 kp (k + 1) (by omega) hk q; omega
    rw [← e1] at ta hq hdr
    show RT _ _ _ _ _ _ (fun a h' => a = none ∧ ((∀ e, e < 14 → h'.2 (w + 22) e = (bgL (NT.fi t) (NT.se t) (trS (snOf t) sh) k (bg1 (NT.fi t) (NT.se t) (trS (snOf t) sh) ((trS (snOf t) sh).2.1 (k + 1)) x)).2 e) ∧ h'.1 = hA.1 ∧ Fr (rgB w) h0 h'))
    have hup' := hup
    generalize hjj : (trS (snOf t) sh).2.1 (k + 1) = j at *
    have hpe14 : pe (trS (snOf t) sh) j < 14 := by have : pe (trS (snOf t) sh) j < NT.E t := hpe; omega
    refine r_iload_2 dX6_beginRound_83 ?_
    refine r_if_le 185 dX6_beginRound_84 (by decide) (fun c_84 => by exact absurd c_84 (nI_nle (by omega) (by omega))) (fun c_84 => ?_)
    refine r_aload_0 dX6_beginRound_87 ?_
    refine r_getR (a := (w + 11)) dX6_beginRound_88 fl_X6_21 (hW.s 0 (by decide)) rfl ?_
    refine r_getR (a := (w + 11 + 1)) dX6_beginRound_91 fl_X6_103 (hW.s 11 (by decide)) rfl ?_
    refine r_iload_2 dX6_beginRound_94 ?_
    refine r_ialdN dX6_beginRound_95 (hW.s 12 (by decide)) (by omega) ?_
    rw [hq]
    refine r_istore_3 dX6_beginRound_96 ?_
    refine r_aload_0 dX6_beginRound_97 ?_
    refine r_getR (a := (w + 11)) dX6_beginRound_98 fl_X6_21 (hW.s 0 (by decide)) rfl ?_
    refine r_getR (a := (w + 11 + 3)) dX6_beginRound_101 fl_X6_106 (hW.s 11 (by decide)) rfl ?_
    refine r_iload_3 dX6_beginRound_104 ?_
    refine r_ialdN dX6_beginRound_105 (hW.s 14 (by decide)) (by omega) ?_
    rw [ta.1]
    refine r_istore_4 dX6_beginRound_106 ?_
    refine r_aload_0 dX6_beginRound_108 ?_
    refine r_getR (a := (w + 24)) dX6_beginRound_109 fl_X6_39 (hW.s 0 (by decide)) rfl ?_
    refine r_iload_3 dX6_beginRound_112 ?_
    refine r_dup2ir dX6_beginRound_113 ?_
    refine r_laldN dX6_beginRound_114 (hW.s 24 (by decide)) (by omega) ?_
    refine r_aload_0 dX6_beginRound_115 ?_
    refine r_getR (a := (w + 1)) dX6_beginRound_116 fl_X6_12 (hW.s 0 (by decide)) rfl ?_
    refine r_getR (a := (w + 1 + 2)) dX6_beginRound_119 fl_X6_109 (hW.s 1 (by decide)) rfl ?_
    refine r_iload_3 dX6_beginRound_122 ?_
    refine r_ialdN dX6_beginRound_123 (hW.s 3 (by decide)) (by omega) ?_
    rw [hdr]
    refine r_i2l dX6_beginRound_124 ?_
    refine r_ladd dX6_beginRound_125 ?_
    refine r_lastN dX6_beginRound_126 (hW.s 24 (by decide)) (by omega) ?_
    refine r_aload_0 dX6_beginRound_127 ?_
    refine r_getR (a := (w + 24)) dX6_beginRound_128 fl_X6_39 (hW.s 0 (by decide)) rfl ?_
    refine r_aload_0 dX6_beginRound_131 ?_
    refine r_getR (a := (w + 11)) dX6_beginRound_132 fl_X6_21 (hW.s 0 (by decide)) rfl ?_
    refine r_getR (a := (w + 11 + 2)) dX6_beginRound_135 fl_X6_112 (hW.s 11 (by decide)) rfl ?_
    refine r_iload_3 dX6_beginRound_138 ?_
    refine r_ialdN dX6_beginRound_139 (hW.s 13 (by decide)) (by omega) ?_
    simp only [pL_1]
    rw [ta.2.1]
    refine r_dup2ir dX6_beginRound_140 ?_
    refine r_laldN dX6_beginRound_141 (hW.s 24 (by decide)) (by omega) ?_
    refine r_aload_0 dX6_beginRound_142 ?_
    refine r_getR (a := (w + 24)) dX6_beginRound_143 fl_X6_39 (hW.s 0 (by decide)) rfl ?_
    refine r_iload_3 dX6_beginRound_146 ?_
    refine r_laldN dX6_beginRound_147 (hW.s 24 (by decide)) (by omega) ?_
    refine r_ladd dX6_beginRound_148 ?_
    refine r_lastN dX6_beginRound_149 (hW.s 24 (by decide)) (by omega) ?_
    refine r_iload_4 dX6_beginRound_150 ?_
    refine r_if_lt 179 dX6_beginRound_152 (by decide) (fun c_152 => by exact absurd c_152 (nI_pos (by omega))) (fun c_152 => ?_)
    refine r_aload_0 dX6_beginRound_155 ?_
    refine r_getR (a := (w + 22)) dX6_beginRound_156 fl_X6_32 (hW.s 0 (by decide)) rfl ?_
    refine r_iload_4 dX6_beginRound_159 ?_
    refine r_aload_0 dX6_beginRound_161 ?_
    refine r_getR (a := (w + 11)) dX6_beginRound_162 fl_X6_21 (hW.s 0 (by decide)) rfl ?_
    refine r_getR (a := (w + 11 + 4)) dX6_beginRound_165 fl_X6_115 (hW.s 11 (by decide)) rfl ?_
    refine r_iload_3 dX6_beginRound_168 ?_
    refine r_ialdN dX6_beginRound_169 (hW.s 15 (by decide)) (by omega) ?_
    simp only [pL_1]
    rw [ta.2.2]
    refine r_i2l dX6_beginRound_170 ?_
    refine r_aload_0 dX6_beginRound_171 ?_
    refine r_getR (a := (w + 24)) dX6_beginRound_172 fl_X6_39 (hW.s 0 (by decide)) rfl ?_
    refine r_iload_3 dX6_beginRound_175 ?_
    refine r_laldN dX6_beginRound_176 (hW.s 24 (by decide)) (by omega) ?_
    refine r_lmul dX6_beginRound_177 ?_
    refine r_lastN dX6_beginRound_178 (hW.s 22 (by decide)) (by omega) ?_
    refine r_idecN_2 dX6_beginRound_179 ?_
    refine r_goto 83 dX6_beginRound_182 (by decide) ?_
    refine RT.sub (lv' := [some (.ref w), some (.int bits), some (.int (nI k)), none, none]) (by simp [lsub]) ?_
    refine ih _ _ (by omega) (fun i hi => ?_) (fun e he => ?_) (by simp only [pL_1]; exact e1) (((fr.pL (Or.inr rfl)).pL (Or.inr rfl)).pL (Or.inl ⟨by omega, by omega⟩))
    · have hij : ¬ (trS (snOf t) sh).2.1 i = j := fun q => by rw [← hjj] at q; have := tw.2.1 i (k + 1) (by omega) hk q; omega
      have hci := hc i (by omega)
      show _ = fupd x.1 (upj (NT.fi t) (NT.se t) (trS (snOf t) sh) j) (x.1 (upj (NT.fi t) (NT.se t) (trS (snOf t) sh) j) + x.1 j) ((trS (snOf t) sh).2.1 i)
      simp (decide := true) only [pI_1, pI_2, pL_1, pL_2, pA_1, pA_2, pB_1, pB_2, Nat.add_left_cancel_iff, Nat.add_right_cancel_iff, Nat.add_eq_left, Nat.left_eq_add, true_and, false_and, and_false, and_true, and_self, if_true, if_false, ite_true, ite_false]
      rw [if_neg hij]
      by_cases q : (trS (snOf t) sh).2.1 i = upj (NT.fi t) (NT.se t) (trS (snOf t) sh) j
      · rw [if_pos q, q, fupd_s, if_neg hne, hcj, ← q, ← hci]
        rw [Int64.add_assoc, Int64.add_comm (x.1 j), ← Int64.add_assoc]
      · rw [if_neg q, fupd_n q]; exact hci
    · show _ = fupd x.2 (pe (trS (snOf t) sh) j) (if NT.se t (pe (trS (snOf t) sh) j) = j then x.1 j else -(x.1 j)) e
      simp (decide := true) only [pI_1, pI_2, pL_1, pL_2, pA_1, pA_2, pB_1, pB_2, Nat.add_left_cancel_iff, Nat.add_right_cancel_iff, Nat.add_eq_left, Nat.left_eq_add, true_and, false_and, and_false, and_true, and_self, if_true, if_false, ite_true, ite_false]
      by_cases q : e = pe (trS (snOf t) sh) j
      · rw [if_pos q, q, fupd_s, if_neg (fun z => hne z.symm), hcj, way64]
      · rw [if_neg q, fupd_n q]; exact hf e he

theorem wN {w : Nat} (hW : isW w) (k : Nat) (hk : k < 10) : shp (w + 1 + k) = shN[k]? := hW.n.s k hk
set_option maxRecDepth 100000 in
set_option maxHeartbeats 4000000 in
theorem k_beginRound {w : Nat} (hW : isW w) {t : NT} (ok : okT t) {h : PH} (nc : NetC h (w + 1) t) : Con mX6_beginRound 4 [.ref w] h (fun a h' => a = none ∧ (NetC h' (w + 1) t ∧ TreeC h' (w + 11) (NT.fi t) (NT.se t) (trS (snOf t) (h.1 w 9)) ∧ RingsC h' (w + 17) (rgS (snOf t) (h.1 w 9)) ∧ (∀ e, e < 14 → h'.2 (w + 22) e = bgS (snOf t) (h.1 w 9) e) ∧ Fr (rgB w) h h')) := by
  refine Con.mk (by decide) ?_
  show RT _ _ 0 [some (.ref w), none, none, none, none] [] _ _
  have hE14 := ok.2.2.1
  have hop : ∀ e, e < NT.E t → bt (((1 : Int32) <<< (nI (NT.E t) &&& 31) - 1) &&& (NT.cl t ^^^ -1) &&& (h.1 w 9 ^^^ -1)) e = opS (snOf t) (h.1 w 9) e := by
    intro e he
    rw [b_and, b_and, b_not _ (by omega), b_not _ (by omega), bits_lt _ (by omega) _ (by omega), decide_eq_true he]
    rfl
  generalize hsh : h.1 w 9 = sh at *
  refine r_iconst (v := 1) dX6_beginRound_0 (by decide) ?_
  refine r_aload_0 dX6_beginRound_1 ?_
  refine r_getR (a := (w + 1)) dX6_beginRound_2 fl_X6_12 (hW.s 0 (by decide)) rfl ?_
  refine r_getI dX6_beginRound_5 fl_X6_83 (hW.s 1 (by decide)) ?_
  rw [nc.2.1]
  refine r_ishl dX6_beginRound_8 ?_
  refine r_iconst (v := 1) dX6_beginRound_9 (by decide) ?_
  refine r_isub dX6_beginRound_10 ?_
  refine r_aload_0 dX6_beginRound_11 ?_
  refine r_getR (a := (w + 1)) dX6_beginRound_12 fl_X6_12 (hW.s 0 (by decide)) rfl ?_
  refine r_getI dX6_beginRound_15 fl_X6_86 (hW.s 1 (by decide)) ?_
  rw [nc.2.2.2.1]
  refine r_iconst (v := (-1)) dX6_beginRound_18 (by decide) ?_
  refine r_ixor dX6_beginRound_19 ?_
  refine r_iand dX6_beginRound_20 ?_
  refine r_aload_0 dX6_beginRound_21 ?_
  refine r_getI dX6_beginRound_22 fl_X6_49 (hW.s 0 (by decide)) ?_
  rw [hsh]
  refine r_iconst (v := (-1)) dX6_beginRound_25 (by decide) ?_
  refine r_ixor dX6_beginRound_26 ?_
  refine r_iand dX6_beginRound_27 ?_
  refine r_istore_1 dX6_beginRound_28 ?_
  refine r_aload_0 dX6_beginRound_29 ?_
  refine r_getR (a := (w + 11)) dX6_beginRound_30 fl_X6_21 (hW.s 0 (by decide)) rfl ?_
  refine r_aload_0 dX6_beginRound_33 ?_
  refine r_getR (a := (w + 1)) dX6_beginRound_34 fl_X6_12 (hW.s 0 (by decide)) rfl ?_
  refine r_iload_1 dX6_beginRound_37 ?_
  refine r_cWQ2 mX5_plant dX6_beginRound_38 ml_X6_89 mo_X5_plant (hW.s 11 (by decide)) (k_plant hW.t hW.n ok _ hop nc) (by decide) (fun h1 p1 => ?_)
  obtain ⟨tc1, f1⟩ := p1
  have nc1 := nc.fr f1 nw_t
  have tw := ok.tw sh
  refine r_aload_0 dX6_beginRound_41 ?_
  refine r_getR (a := (w + 17)) dX6_beginRound_42 fl_X6_28 (hW.s 0 (by decide)) rfl ?_
  refine r_aload_0 dX6_beginRound_45 ?_
  refine r_getR (a := (w + 1)) dX6_beginRound_46 fl_X6_12 (hW.s 0 (by decide)) rfl ?_
  refine r_aload_0 dX6_beginRound_49 ?_
  refine r_getR (a := (w + 11)) dX6_beginRound_50 fl_X6_21 (hW.s 0 (by decide)) rfl ?_
  refine r_iload_1 dX6_beginRound_53 ?_
  refine r_cWQ3 mX4_find dX6_beginRound_54 ml_X6_93 mo_X4_find (hW.s 17 (by decide)) (k_find hW.r hW.t hW.n ok tw (fun e he ho => ok.both sh he ho) hop nc1 tc1) (by decide) (fun h2 p2 => ?_)
  obtain ⟨rc2, f2⟩ := p2
  have nc2 := nc1.fr f2 nw_r
  have tc2 := tc1.fr f2 tw_r
  refine r_aload_0 dX6_beginRound_57 ?_
  refine r_getR (a := (w + 22)) dX6_beginRound_58 fl_X6_32 (hW.s 0 (by decide)) rfl ?_
  refine r_lconst (v := 0) dX6_beginRound_61 (by decide) ?_
  refine r_cT2 mJ7_fill_d0a16 dX6_beginRound_62 ml_X6_97 mo_J7_fill_d0a16 (k_fillL (hW.s 22 (by decide)) _ _) (by decide) ?_
  refine r_aload_0 dX6_beginRound_65 ?_
  refine r_getR (a := (w + 24)) dX6_beginRound_66 fl_X6_39 (hW.s 0 (by decide)) rfl ?_
  refine r_lconst (v := 0) dX6_beginRound_69 (by decide) ?_
  refine r_cT2 mJ7_fill_d0a16 dX6_beginRound_70 ml_X6_97 mo_J7_fill_d0a16 (k_fillL (hW.s 24 (by decide)) _ _) (by decide) ?_
  refine r_aload_0 dX6_beginRound_73 ?_
  refine r_getR (a := (w + 11)) dX6_beginRound_74 fl_X6_21 (hW.s 0 (by decide)) rfl ?_
  refine r_getI dX6_beginRound_77 fl_X6_100 (hW.s 11 (by decide)) ?_
  rw [show (pB (pB h2 (w + 22) _) (w + 24) _).1 (w + 11) 2 = nI (trS (snOf t) sh).1 from tc2.2.2.1]
  refine r_iconst (v := nI 1) dX6_beginRound_80 (by decide) ?_
  refine r_isub dX6_beginRound_81 ?_
  rw [pk_sub tw.2.2.2.1.1]
  refine r_istore_2 dX6_beginRound_82 ?_
  have TB : ∀ x, rgT (w + 11) x → rgB w x := fun x q => Or.inl ⟨q.1, by have := q.2; omega⟩
  have RB : ∀ x, rgR (w + 17) x → rgB w x := fun x q => Or.inl ⟨by have := q.1; omega, by have := q.2; omega⟩
  have h9 := tw.le
  have L := bg_loop hW ok sh (((1 : Int32) <<< (nI (NT.E t) &&& 31) - 1) &&& (NT.cl t ^^^ -1) &&& (sh ^^^ -1)) h (pB (pB h2 (w + 22) (fun k => if k < 14 then 0 else h2.2 (w + 22) k)) (w + 24) (fun k => if k < 9 then 0 else (pB h2 (w + 22) (fun k => if k < 14 then 0 else h2.2 (w + 22) k)).2 (w + 24) k)) nc2 tc2 ((trS (snOf t) sh).1 - 1) (car0 (drT t), fun _ => 0) _ (by have := tw.2.2.2.1.1; omega) (fun i hi => ?_) (fun e he => ?_) rfl ((((f1.wk TB).tr (f2.wk RB)).pB (Or.inl ⟨by omega, by omega⟩)).pB (Or.inr rfl))
  · exact L.imp (fun a b q => ⟨q.1, nc2.ext q.2.2.1, tc2.ext q.2.2.1, rc2.ext q.2.2.1, q.2.1, q.2.2.2⟩)
  · have hi9 := (tw.1 i (by have := tw.2.2.2.1.1; omega)).1
    simp (decide := true) only [pI_1, pI_2, pL_1, pL_2, pA_1, pA_2, pB_1, pB_2, Nat.add_left_cancel_iff, Nat.add_right_cancel_iff, Nat.add_eq_left, Nat.left_eq_add, true_and, false_and, and_false, and_true, and_self, if_true, if_false, ite_true, ite_false]
    rw [if_pos hi9]
    show _ = car0 (drT t) _
    unfold car0
    by_cases q : 0 < i
    · rw [if_pos q, if_pos, Int64.zero_add]
      refine Nat.pos_of_ne_zero (fun z => ?_)
      have := tw.2.1 i 0 (by have := tw.2.2.2.1.1; omega) tw.2.2.2.1.1 (z.trans tw.2.2.2.1.2.symm)
      omega
    · have : i = 0 := by omega
      subst this
      rw [if_neg q, tw.2.2.2.1.2, if_neg (by omega)]; rfl
  · simp (decide := true) only [pI_1, pI_2, pL_1, pL_2, pA_1, pA_2, pB_1, pB_2, Nat.add_left_cancel_iff, Nat.add_right_cancel_iff, Nat.add_eq_left, Nat.left_eq_add, true_and, false_and, and_false, and_true, and_self, if_true, if_false, ite_true, ite_false]
    rw [if_pos he]

