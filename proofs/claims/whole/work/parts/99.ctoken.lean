/-! ===== the class: readToken ===== -/
def CK (h : PH) (B : Nat → Nat) (k : TK) : Prop := h.1 2 6 = nI k.1 ∧ h.1 2 5 = nI k.2.1 ∧ h.1 2 3 = nI k.2.2 ∧ (k.1 = 1 → h.2 2 7 = lN (packN (wd B k))) ∧ (k.1 = 2 → h.1 2 8 = wv B k)
def F2 (h h' : PH) : Prop := (∀ k, k ≠ 3 → k ≠ 5 → k ≠ 6 → k ≠ 8 → h'.1 2 k = h.1 2 k) ∧ h'.2 2 9 = h.2 2 9 ∧ Fr (fun y => y = 2) h h'
theorem F2.rf {h : PH} : F2 h h := ⟨fun _ _ _ _ _ => rfl, rfl, Fr.rf⟩
theorem F2.tr {h h' h'' : PH} (a : F2 h h') (b : F2 h' h'') : F2 h h'' := ⟨fun k h1 h2 h3 h4 => (b.1 k h1 h2 h3 h4).trans (a.1 k h1 h2 h3 h4), b.2.1.trans a.2.1, a.2.2.tr b.2.2⟩
theorem FK.f2 {S : Nat → Prop} {h h' : PH} (f : FK S h h') (q : ∀ k, S k → k = 3 ∨ k = 5 ∨ k = 6 ∨ k = 8) : F2 h h' := ⟨fun k h1 h2 h3 h4 => f.1 k (fun z => by have := q k z; omega), congrFun (congrFun f.2.1 2) 9, fun y hy => ⟨f.2.2 y hy, congrFun f.2.1 y⟩⟩
theorem CB.f2 {h h' : PH} {n : Nat} {B : Nat → Nat} (c : CB h n B) (f : F2 h h') : CB h' n B := ⟨(f.1 1 (by decide) (by decide) (by decide) (by decide)).trans c.1, (f.1 2 (by decide) (by decide) (by decide) (by decide)).trans c.2.1, fun i hi => by rw [(f.2.2 1 (by decide)).1]; exact c.2.2 i hi⟩
set_option maxRecDepth 100000 in
set_option maxHeartbeats 4000000 in
theorem rtok_loop {n : Nat} {B : Nat → Nat} (ok : OKB n B) {h0 : PH} (cb : CB h0 n B) {Q : Option Value → PH → Prop} : ∀ (m q : Nat) (h : PH), q + m = n → h.1 2 3 = nI q → FK (fun k => k = 3) h0 h → (∀ h', h'.1 2 3 = nI (runS isSp B m q) → FK (fun k => k = 3) h0 h' → RT mX3_readToken 3 38 [some (.ref 2)] [] h' Q) → RT mX3_readToken 3 0 [some (.ref 2)] [] h Q := by
  have hn := ok.1
  intro m
  induction m with
  | zero =>
    intro q h hq e3 fr K
    have c := cb.fk fr (by decide) (by decide)
    refine r_aload_0 dX3_readToken_0 ?_
    refine r_getI dX3_readToken_1 fl_X3_26 rfl ?_
    rw [e3]
    refine r_aload_0 dX3_readToken_4 ?_
    refine r_getI dX3_readToken_5 fl_X3_22 rfl ?_
    rw [c.2.1]
    refine r_icmpN_ge 38 dX3_readToken_8 (by decide) (by omega) (by omega) (fun c_8 => ?_) (fun c_8 => by omega)
    exact K h e3 fr
  | succ m ih =>
    intro q h hq e3 fr K
    have c := cb.fk fr (by decide) (by decide)
    have hb := (sB_c (ok.2 q (by omega))).1
    unfold runS at K
    by_cases hl : B q = 32
    · rw [if_pos (by unfold isSp; exact decide_eq_true hl)] at K
      refine r_aload_0 dX3_readToken_0 ?_
      refine r_getI dX3_readToken_1 fl_X3_26 rfl ?_
      rw [e3]
      refine r_aload_0 dX3_readToken_4 ?_
      refine r_getI dX3_readToken_5 fl_X3_22 rfl ?_
      rw [c.2.1]
      refine r_icmpN_ge 38 dX3_readToken_8 (by decide) (by omega) (by omega) (fun c_8 => by omega) (fun c_8 => ?_)
      refine r_aload_0 dX3_readToken_11 ?_
      refine r_getD (a := 1) dX3_readToken_12 fl_X3_18 rfl (by rw [c.1]; rfl) ?_
      refine r_aload_0 dX3_readToken_15 ?_
      refine r_getI dX3_readToken_16 fl_X3_26 rfl ?_
      rw [e3]
      refine r_baldN dX3_readToken_19 rfl (by omega) ?_
      rw [c.2.2 q (by omega)]
      refine r_bipush (v := 32) dX3_readToken_20 (by decide) ?_
      refine r_icmp_ne 38 dX3_readToken_22 (by decide) (fun c_22 => by exact absurd (hb.mpr hl) c_22) (fun c_22 => ?_)
      refine r_aload_0 dX3_readToken_25 ?_
      refine r_dupr dX3_readToken_26 ?_
      refine r_getI dX3_readToken_27 fl_X3_26 rfl ?_
      rw [e3]
      refine r_iconst (v := nI 1) dX3_readToken_30 (by decide) ?_
      refine r_iadd dX3_readToken_31 ?_
      rw [nI_ad9]
      refine r_putI dX3_readToken_32 fl_X3_26 rfl rfl rfl ?_
      refine r_goto 0 dX3_readToken_35 (by decide) ?_
      exact ih (q + 1) _ (by omega) pI_eq (fk_pI fr rfl) K
    · rw [if_neg (by unfold isSp; simp [hl])] at K
      refine r_aload_0 dX3_readToken_0 ?_
      refine r_getI dX3_readToken_1 fl_X3_26 rfl ?_
      rw [e3]
      refine r_aload_0 dX3_readToken_4 ?_
      refine r_getI dX3_readToken_5 fl_X3_22 rfl ?_
      rw [c.2.1]
      refine r_icmpN_ge 38 dX3_readToken_8 (by decide) (by omega) (by omega) (fun c_8 => by omega) (fun c_8 => ?_)
      refine r_aload_0 dX3_readToken_11 ?_
      refine r_getD (a := 1) dX3_readToken_12 fl_X3_18 rfl (by rw [c.1]; rfl) ?_
      refine r_aload_0 dX3_readToken_15 ?_
      refine r_getI dX3_readToken_16 fl_X3_26 rfl ?_
      rw [e3]
      refine r_baldN dX3_readToken_19 rfl (by omega) ?_
      rw [c.2.2 q (by omega)]
      refine r_bipush (v := 32) dX3_readToken_20 (by decide) ?_
      refine r_icmp_ne 38 dX3_readToken_22 (by decide) (fun c_22 => ?_) (fun c_22 => by exact absurd (hb.mp c_22) hl)
      exact K h e3 fr
set_option maxRecDepth 100000 in
set_option maxHeartbeats 4000000 in
theorem k_readToken {n : Nat} {B : Nat → Nat} (ok : OKB n B) {h : PH} (cb : CB h n B) {q : Nat} (hq : q ≤ n) (e3 : h.1 2 3 = nI q) : Con mX3_readToken 3 [.ref 2] h (fun a h' => a = none ∧ (CK h' B (tkS B n q) ∧ F2 h h')) := by
  have hn := ok.1
  have rb := runS_b (p := isSp) (B := B) (n - q) q
  refine Con.mk (by decide) ?_
  show RT _ _ 0 [some (.ref 2)] [] _ _
  refine rtok_loop ok cb (n - q) q h (by omega) e3 FK.rf (fun h1 g3 f1 => ?_)
  show RT _ _ _ _ _ _ (fun a h' => a = none ∧ (CK h' B (tkA B n (runS isSp B (n - q) q)) ∧ F2 h h'))
  generalize runS isSp B (n - q) q = s at g3 rb
  have c1 := (cb.fk f1 (by decide) (by decide)).fk (S := fun k => k = 5) (h' := pI h1 2 5 (nI s)) (fk_pI FK.rf rfl) (by decide) (by decide)
  have d3 : (pI h1 2 5 (nI s)).1 2 3 = nI s := (pI_ne 2 3 (Or.inr (by decide))).trans g3
  have d5 : (pI h1 2 5 (nI s)).1 2 5 = nI s := pI_eq
  have ff : F2 h (pI h1 2 5 (nI s)) := (f1.f2 (fun k q => Or.inl q)).tr (FK.f2 (S := fun k => k = 5) (fk_pI FK.rf rfl) (fun k q => Or.inr (Or.inl q)))
  have hs : s ≤ n := by omega
  refine r_aload_0 dX3_readToken_38 ?_
  refine r_aload_0 dX3_readToken_39 ?_
  refine r_getI dX3_readToken_40 fl_X3_26 rfl ?_
  rw [g3]
  refine r_putI dX3_readToken_43 fl_X3_141 rfl rfl rfl ?_
  generalize pI h1 2 5 (nI s) = h2 at c1 d3 d5 ff
  by_cases h0 : s < n
  · unfold tkA
    rw [if_pos h0]
    have hb := ok.2 s h0
    by_cases hl : isL (B s) = true
    · rw [if_pos hl]
      refine r_aload_0 dX3_readToken_46 ?_
      refine r_getI dX3_readToken_47 fl_X3_26 rfl ?_
      rw [d3]
      refine r_aload_0 dX3_readToken_50 ?_
      refine r_getI dX3_readToken_51 fl_X3_22 rfl ?_
      rw [c1.2.1]
      refine r_icmpN_lt 65 dX3_readToken_54 (by decide) (by omega) (by omega) (fun c_54 => ?_) (fun c_54 => by omega)
      refine r_aload_0 dX3_readToken_65 ?_
      refine r_getD (a := 1) dX3_readToken_66 fl_X3_18 rfl (by rw [c1.1]; rfl) ?_
      refine r_aload_0 dX3_readToken_69 ?_
      refine r_getI dX3_readToken_70 fl_X3_26 rfl ?_
      rw [d3]
      refine r_baldN dX3_readToken_73 rfl (by omega) ?_
      rw [c1.2.2 s h0]
      refine r_cS1 mX3_isLetter dX3_readToken_74 ml_X3_144 mo_X3_isLetter (k_isLetter _ _) (by decide) ?_
      rw [b2i_c (sB_L hb), b2i_t hl]
      refine r_if_eq 87 dX3_readToken_77 (by decide) (fun c_77 => by exact absurd c_77 (by decide)) (fun c_77 => ?_)
      refine r_aload_0 dX3_readToken_80 ?_
      refine r_cWQ0 mX3_readWord dX3_readToken_81 ml_X3_147 mo_X3_readWord rfl (k_readWord ok c1 hs d3 d5) (by decide) (fun h3 p3 => ?_)
      obtain ⟨a6, a3, a7, a1, a9, af⟩ := p3
      refine r_goto 160 dX3_readToken_84 (by decide) ?_
      refine r_vret dX3_readToken_160 rfl ?_
      have rl := runS_b (p := isL) (B := B) (n - s) s
      refine ⟨rfl, ⟨a6, (a1 5 (by decide) (by decide)).trans d5, a3, fun q1 => ?_, fun q2 => ?_⟩, ff.tr ⟨fun k h1 h2 h3 h4 => a1 k h1 h3, a9, af⟩⟩
      · have h6 : runS isL B (n - s) s - s ≤ 6 := by
          by_cases z : runS isL B (n - s) s - s ≤ 6
          · exact z
          · rw [if_neg z] at q1; exact absurd q1 (show ¬ (5 = 1) by decide)
        rw [a7, pkE_eq _ h6 (fun i hi => runS_in (n - s) s _ (by omega) (by omega))]
        show _ = lN (packN (wdL B s (runS isL B (n - s) s)))
        rw [show s + (runS isL B (n - s) s - s) = runS isL B (n - s) s by omega]
      · exfalso
        simp only at q2
        split at q2 <;> omega
    · rw [if_neg hl]
      by_cases hd : isD (B s) = true
      · rw [if_pos hd]
        refine r_aload_0 dX3_readToken_46 ?_
        refine r_getI dX3_readToken_47 fl_X3_26 rfl ?_
        rw [d3]
        refine r_aload_0 dX3_readToken_50 ?_
        refine r_getI dX3_readToken_51 fl_X3_22 rfl ?_
        rw [c1.2.1]
        refine r_icmpN_lt 65 dX3_readToken_54 (by decide) (by omega) (by omega) (fun c_54 => ?_) (fun c_54 => by omega)
        refine r_aload_0 dX3_readToken_65 ?_
        refine r_getD (a := 1) dX3_readToken_66 fl_X3_18 rfl (by rw [c1.1]; rfl) ?_
        refine r_aload_0 dX3_readToken_69 ?_
        refine r_getI dX3_readToken_70 fl_X3_26 rfl ?_
        rw [d3]
        refine r_baldN dX3_readToken_73 rfl (by omega) ?_
        rw [c1.2.2 s h0]
        refine r_cS1 mX3_isLetter dX3_readToken_74 ml_X3_144 mo_X3_isLetter (k_isLetter _ _) (by decide) ?_
        rw [b2i_c (sB_L hb), b2i_f hl]
        refine r_if_eq 87 dX3_readToken_77 (by decide) (fun c_77 => ?_) (fun c_77 => by exact absurd rfl c_77)
        refine r_aload_0 dX3_readToken_87 ?_
        refine r_getD (a := 1) dX3_readToken_88 fl_X3_18 rfl (by rw [c1.1]; rfl) ?_
        refine r_aload_0 dX3_readToken_91 ?_
        refine r_getI dX3_readToken_92 fl_X3_26 rfl ?_
        rw [d3]
        refine r_baldN dX3_readToken_95 rfl (by omega) ?_
        rw [c1.2.2 s h0]
        refine r_cS1 mX3_isDigit dX3_readToken_96 ml_X3_150 mo_X3_isDigit (k_isDigit _ _) (by decide) ?_
        rw [b2i_c (sB_D hb), b2i_t hd]
        refine r_if_eq 109 dX3_readToken_99 (by decide) (fun c_99 => by exact absurd c_99 (by decide)) (fun c_99 => ?_)
        refine r_aload_0 dX3_readToken_102 ?_
        refine r_cWQ0 mX3_readWhole dX3_readToken_103 ml_X3_153 mo_X3_readWhole rfl (k_readWhole ok c1 hs d3 d5) (by decide) (fun h3 p3 => ?_)
        obtain ⟨a6, a3, a8, a1, a9, af⟩ := p3
        refine r_goto 160 dX3_readToken_106 (by decide) ?_
        refine r_vret dX3_readToken_160 rfl ?_
        refine ⟨rfl, ⟨a6, (a1 5 (by decide) (by decide) (by decide)).trans d5, a3, fun q1 => ?_, fun q2 => a8⟩, ff.tr ⟨fun k h1 h2 h3 h4 => a1 k h1 h3 h4, a9, af⟩⟩
        exfalso
        simp only at q1
        split at q1 <;> omega
      · rw [if_neg hd]
        have hc := sB_c hb
        by_cases h59 : B s = 59
        · rw [if_pos h59]
          refine r_aload_0 dX3_readToken_46 ?_
          refine r_getI dX3_readToken_47 fl_X3_26 rfl ?_
          rw [d3]
          refine r_aload_0 dX3_readToken_50 ?_
          refine r_getI dX3_readToken_51 fl_X3_22 rfl ?_
          rw [c1.2.1]
          refine r_icmpN_lt 65 dX3_readToken_54 (by decide) (by omega) (by omega) (fun c_54 => ?_) (fun c_54 => by omega)
          refine r_aload_0 dX3_readToken_65 ?_
          refine r_getD (a := 1) dX3_readToken_66 fl_X3_18 rfl (by rw [c1.1]; rfl) ?_
          refine r_aload_0 dX3_readToken_69 ?_
          refine r_getI dX3_readToken_70 fl_X3_26 rfl ?_
          rw [d3]
          refine r_baldN dX3_readToken_73 rfl (by omega) ?_
          rw [c1.2.2 s h0]
          refine r_cS1 mX3_isLetter dX3_readToken_74 ml_X3_144 mo_X3_isLetter (k_isLetter _ _) (by decide) ?_
          rw [b2i_c (sB_L hb), b2i_f hl]
          refine r_if_eq 87 dX3_readToken_77 (by decide) (fun c_77 => ?_) (fun c_77 => by exact absurd rfl c_77)
          refine r_aload_0 dX3_readToken_87 ?_
          refine r_getD (a := 1) dX3_readToken_88 fl_X3_18 rfl (by rw [c1.1]; rfl) ?_
          refine r_aload_0 dX3_readToken_91 ?_
          refine r_getI dX3_readToken_92 fl_X3_26 rfl ?_
          rw [d3]
          refine r_baldN dX3_readToken_95 rfl (by omega) ?_
          rw [c1.2.2 s h0]
          refine r_cS1 mX3_isDigit dX3_readToken_96 ml_X3_150 mo_X3_isDigit (k_isDigit _ _) (by decide) ?_
          rw [b2i_c (sB_D hb), b2i_f hd]
          refine r_if_eq 109 dX3_readToken_99 (by decide) (fun c_99 => ?_) (fun c_99 => by exact absurd rfl c_99)
          refine r_aload_0 dX3_readToken_109 ?_
          refine r_aload_0 dX3_readToken_110 ?_
          refine r_getD (a := 1) dX3_readToken_111 fl_X3_18 rfl (by rw [c1.1]; rfl) ?_
          refine r_aload_0 dX3_readToken_114 ?_
          refine r_getI dX3_readToken_115 fl_X3_26 rfl ?_
          rw [d3]
          refine r_baldN dX3_readToken_118 rfl (by omega) ?_
          rw [c1.2.2 s h0]
          refine r_bipush (v := 59) dX3_readToken_119 (by decide) ?_
          refine r_icmp_ne 128 dX3_readToken_121 (by decide) (fun c_121 => by exact absurd (hc.2.1.mpr h59) c_121) (fun c_121 => ?_)
          refine r_iconst (v := nI 3) dX3_readToken_124 (by decide) ?_
          refine r_goto 147 dX3_readToken_125 (by decide) ?_
          refine r_putI dX3_readToken_147 fl_X3_42 rfl rfl rfl ?_
          refine r_aload_0 dX3_readToken_150 ?_
          refine r_dupr dX3_readToken_151 ?_
          refine r_getI dX3_readToken_152 fl_X3_26 rfl ?_
          rw [show (pI h2 2 6 (nI 3)).1 2 3 = nI s from (pI_ne 2 3 (Or.inr (by decide))).trans d3]
          refine r_iconst (v := nI 1) dX3_readToken_155 (by decide) ?_
          refine r_iadd dX3_readToken_156 ?_
          rw [nI_ad9]
          refine r_putI dX3_readToken_157 fl_X3_26 rfl rfl rfl ?_
          refine r_vret dX3_readToken_160 rfl ?_
          refine ⟨rfl, ⟨(pI_ne 2 6 (Or.inr (by decide))).trans pI_eq, ((pI_ne 2 5 (Or.inr (by decide))).trans (pI_ne 2 5 (Or.inr (by decide)))).trans d5, pI_eq, fun q => (by simp at q), fun q => (by simp at q)⟩, ff.tr (FK.f2 (S := fun k => k = 3 ∨ k = 6) (fk_pI (fk_pI FK.rf (Or.inr rfl)) (Or.inl rfl)) (fun k q => by omega))⟩
        · rw [if_neg h59]
          by_cases h44 : B s = 44
          · rw [if_pos h44]
            refine r_aload_0 dX3_readToken_46 ?_
            refine r_getI dX3_readToken_47 fl_X3_26 rfl ?_
            rw [d3]
            refine r_aload_0 dX3_readToken_50 ?_
            refine r_getI dX3_readToken_51 fl_X3_22 rfl ?_
            rw [c1.2.1]
            refine r_icmpN_lt 65 dX3_readToken_54 (by decide) (by omega) (by omega) (fun c_54 => ?_) (fun c_54 => by omega)
            refine r_aload_0 dX3_readToken_65 ?_
            refine r_getD (a := 1) dX3_readToken_66 fl_X3_18 rfl (by rw [c1.1]; rfl) ?_
            refine r_aload_0 dX3_readToken_69 ?_
            refine r_getI dX3_readToken_70 fl_X3_26 rfl ?_
            rw [d3]
            refine r_baldN dX3_readToken_73 rfl (by omega) ?_
            rw [c1.2.2 s h0]
            refine r_cS1 mX3_isLetter dX3_readToken_74 ml_X3_144 mo_X3_isLetter (k_isLetter _ _) (by decide) ?_
            rw [b2i_c (sB_L hb), b2i_f hl]
            refine r_if_eq 87 dX3_readToken_77 (by decide) (fun c_77 => ?_) (fun c_77 => by exact absurd rfl c_77)
            refine r_aload_0 dX3_readToken_87 ?_
            refine r_getD (a := 1) dX3_readToken_88 fl_X3_18 rfl (by rw [c1.1]; rfl) ?_
            refine r_aload_0 dX3_readToken_91 ?_
            refine r_getI dX3_readToken_92 fl_X3_26 rfl ?_
            rw [d3]
            refine r_baldN dX3_readToken_95 rfl (by omega) ?_
            rw [c1.2.2 s h0]
            refine r_cS1 mX3_isDigit dX3_readToken_96 ml_X3_150 mo_X3_isDigit (k_isDigit _ _) (by decide) ?_
            rw [b2i_c (sB_D hb), b2i_f hd]
            refine r_if_eq 109 dX3_readToken_99 (by decide) (fun c_99 => ?_) (fun c_99 => by exact absurd rfl c_99)
            refine r_aload_0 dX3_readToken_109 ?_
            refine r_aload_0 dX3_readToken_110 ?_
            refine r_getD (a := 1) dX3_readToken_111 fl_X3_18 rfl (by rw [c1.1]; rfl) ?_
            refine r_aload_0 dX3_readToken_114 ?_
            refine r_getI dX3_readToken_115 fl_X3_26 rfl ?_
            rw [d3]
            refine r_baldN dX3_readToken_118 rfl (by omega) ?_
            rw [c1.2.2 s h0]
            refine r_bipush (v := 59) dX3_readToken_119 (by decide) ?_
            refine r_icmp_ne 128 dX3_readToken_121 (by decide) (fun c_121 => ?_) (fun c_121 => by exact absurd (hc.2.1.mp c_121) h59)
            refine r_aload_0 dX3_readToken_128 ?_
            refine r_getD (a := 1) dX3_readToken_129 fl_X3_18 rfl (by rw [c1.1]; rfl) ?_
            refine r_aload_0 dX3_readToken_132 ?_
            refine r_getI dX3_readToken_133 fl_X3_26 rfl ?_
            rw [d3]
            refine r_baldN dX3_readToken_136 rfl (by omega) ?_
            rw [c1.2.2 s h0]
            refine r_bipush (v := 44) dX3_readToken_137 (by decide) ?_
            refine r_icmp_ne 146 dX3_readToken_139 (by decide) (fun c_139 => by exact absurd (hc.2.2.mpr h44) c_139) (fun c_139 => ?_)
            refine r_iconst (v := nI 4) dX3_readToken_142 (by decide) ?_
            refine r_goto 147 dX3_readToken_143 (by decide) ?_
            refine r_putI dX3_readToken_147 fl_X3_42 rfl rfl rfl ?_
            refine r_aload_0 dX3_readToken_150 ?_
            refine r_dupr dX3_readToken_151 ?_
            refine r_getI dX3_readToken_152 fl_X3_26 rfl ?_
            rw [show (pI h2 2 6 (nI 4)).1 2 3 = nI s from (pI_ne 2 3 (Or.inr (by decide))).trans d3]
            refine r_iconst (v := nI 1) dX3_readToken_155 (by decide) ?_
            refine r_iadd dX3_readToken_156 ?_
            rw [nI_ad9]
            refine r_putI dX3_readToken_157 fl_X3_26 rfl rfl rfl ?_
            refine r_vret dX3_readToken_160 rfl ?_
            refine ⟨rfl, ⟨(pI_ne 2 6 (Or.inr (by decide))).trans pI_eq, ((pI_ne 2 5 (Or.inr (by decide))).trans (pI_ne 2 5 (Or.inr (by decide)))).trans d5, pI_eq, fun q => (by simp at q), fun q => (by simp at q)⟩, ff.tr (FK.f2 (S := fun k => k = 3 ∨ k = 6) (fk_pI (fk_pI FK.rf (Or.inr rfl)) (Or.inl rfl)) (fun k q => by omega))⟩
          · rw [if_neg h44]
            refine r_aload_0 dX3_readToken_46 ?_
            refine r_getI dX3_readToken_47 fl_X3_26 rfl ?_
            rw [d3]
            refine r_aload_0 dX3_readToken_50 ?_
            refine r_getI dX3_readToken_51 fl_X3_22 rfl ?_
            rw [c1.2.1]
            refine r_icmpN_lt 65 dX3_readToken_54 (by decide) (by omega) (by omega) (fun c_54 => ?_) (fun c_54 => by omega)
            refine r_aload_0 dX3_readToken_65 ?_
            refine r_getD (a := 1) dX3_readToken_66 fl_X3_18 rfl (by rw [c1.1]; rfl) ?_
            refine r_aload_0 dX3_readToken_69 ?_
            refine r_getI dX3_readToken_70 fl_X3_26 rfl ?_
            rw [d3]
            refine r_baldN dX3_readToken_73 rfl (by omega) ?_
            rw [c1.2.2 s h0]
            refine r_cS1 mX3_isLetter dX3_readToken_74 ml_X3_144 mo_X3_isLetter (k_isLetter _ _) (by decide) ?_
            rw [b2i_c (sB_L hb), b2i_f hl]
            refine r_if_eq 87 dX3_readToken_77 (by decide) (fun c_77 => ?_) (fun c_77 => by exact absurd rfl c_77)
            refine r_aload_0 dX3_readToken_87 ?_
            refine r_getD (a := 1) dX3_readToken_88 fl_X3_18 rfl (by rw [c1.1]; rfl) ?_
            refine r_aload_0 dX3_readToken_91 ?_
            refine r_getI dX3_readToken_92 fl_X3_26 rfl ?_
            rw [d3]
            refine r_baldN dX3_readToken_95 rfl (by omega) ?_
            rw [c1.2.2 s h0]
            refine r_cS1 mX3_isDigit dX3_readToken_96 ml_X3_150 mo_X3_isDigit (k_isDigit _ _) (by decide) ?_
            rw [b2i_c (sB_D hb), b2i_f hd]
            refine r_if_eq 109 dX3_readToken_99 (by decide) (fun c_99 => ?_) (fun c_99 => by exact absurd rfl c_99)
            refine r_aload_0 dX3_readToken_109 ?_
            refine r_aload_0 dX3_readToken_110 ?_
            refine r_getD (a := 1) dX3_readToken_111 fl_X3_18 rfl (by rw [c1.1]; rfl) ?_
            refine r_aload_0 dX3_readToken_114 ?_
            refine r_getI dX3_readToken_115 fl_X3_26 rfl ?_
            rw [d3]
            refine r_baldN dX3_readToken_118 rfl (by omega) ?_
            rw [c1.2.2 s h0]
            refine r_bipush (v := 59) dX3_readToken_119 (by decide) ?_
            refine r_icmp_ne 128 dX3_readToken_121 (by decide) (fun c_121 => ?_) (fun c_121 => by exact absurd (hc.2.1.mp c_121) h59)
            refine r_aload_0 dX3_readToken_128 ?_
            refine r_getD (a := 1) dX3_readToken_129 fl_X3_18 rfl (by rw [c1.1]; rfl) ?_
            refine r_aload_0 dX3_readToken_132 ?_
            refine r_getI dX3_readToken_133 fl_X3_26 rfl ?_
            rw [d3]
            refine r_baldN dX3_readToken_136 rfl (by omega) ?_
            rw [c1.2.2 s h0]
            refine r_bipush (v := 44) dX3_readToken_137 (by decide) ?_
            refine r_icmp_ne 146 dX3_readToken_139 (by decide) (fun c_139 => ?_) (fun c_139 => by exact absurd (hc.2.2.mp c_139) h44)
            refine r_iconst (v := nI 5) dX3_readToken_146 (by decide) ?_
            refine r_putI dX3_readToken_147 fl_X3_42 rfl rfl rfl ?_
            refine r_aload_0 dX3_readToken_150 ?_
            refine r_dupr dX3_readToken_151 ?_
            refine r_getI dX3_readToken_152 fl_X3_26 rfl ?_
            rw [show (pI h2 2 6 (nI 5)).1 2 3 = nI s from (pI_ne 2 3 (Or.inr (by decide))).trans d3]
            refine r_iconst (v := nI 1) dX3_readToken_155 (by decide) ?_
            refine r_iadd dX3_readToken_156 ?_
            rw [nI_ad9]
            refine r_putI dX3_readToken_157 fl_X3_26 rfl rfl rfl ?_
            refine r_vret dX3_readToken_160 rfl ?_
            refine ⟨rfl, ⟨(pI_ne 2 6 (Or.inr (by decide))).trans pI_eq, ((pI_ne 2 5 (Or.inr (by decide))).trans (pI_ne 2 5 (Or.inr (by decide)))).trans d5, pI_eq, fun q => (by simp at q), fun q => (by simp at q)⟩, ff.tr (FK.f2 (S := fun k => k = 3 ∨ k = 6) (fk_pI (fk_pI FK.rf (Or.inr rfl)) (Or.inl rfl)) (fun k q => by omega))⟩
  · have : s = n := by omega
    unfold tkA
    rw [if_neg h0]
    refine r_aload_0 dX3_readToken_46 ?_
    refine r_getI dX3_readToken_47 fl_X3_26 rfl ?_
    rw [d3]
    refine r_aload_0 dX3_readToken_50 ?_
    refine r_getI dX3_readToken_51 fl_X3_22 rfl ?_
    rw [c1.2.1]
    refine r_icmpN_lt 65 dX3_readToken_54 (by decide) (by omega) (by omega) (fun c_54 => by omega) (fun c_54 => ?_)
    refine r_aload_0 dX3_readToken_57 ?_
    refine r_iconst (v := nI 0) dX3_readToken_58 (by decide) ?_
    refine r_putI dX3_readToken_59 fl_X3_42 rfl rfl rfl ?_
    refine r_goto 160 dX3_readToken_62 (by decide) ?_
    refine r_vret dX3_readToken_160 rfl ?_
    refine ⟨rfl, ⟨pI_eq, (pI_ne 2 5 (Or.inr (by decide))).trans d5, (pI_ne 2 3 (Or.inr (by decide))).trans d3, fun q => (by simp at q), fun q => (by simp at q)⟩, ff.tr (FK.f2 (S := fun k => k = 6) (fk_pI FK.rf rfl) (fun k q => by omega))⟩

