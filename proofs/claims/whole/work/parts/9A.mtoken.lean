/-! ===== the reference: goesOn ===== -/
def noS : Nat → Prop := fun _ => False
def tkM (k : Nat) : Int32 := if k = 0 then 0 else if k = 1 then 2 else if k = 2 then 3 else if k = 3 then 59 else if k = 4 then 44 else 1
def MB (h : PH) (n : Nat) (B : Nat → Nat) : Prop := h.1 74 18 = nI n ∧ ∀ i, i < n → h.1 75 i = nI (B i)
def MK (h : PH) (B : Nat → Nat) (k : TK) : Prop := h.1 74 21 = tkM k.1 ∧ h.1 74 19 = nI k.2.1 ∧ h.1 74 20 = nI k.2.2 ∧ (k.1 = 2 → h.1 74 22 = wv B k)
def tkF : Nat → Prop := fun k => k = 19 ∨ k = 20 ∨ k = 21 ∨ k = 22
theorem MB.fm {F : Nat → Prop} {h h' : PH} {n : Nat} {B : Nat → Nat} (c : MB h n B) (f : FM noS F h h') (h18 : ¬ F 18) : MB h' n B := ⟨(f.1 18 h18).trans c.1, fun i hi => by rw [(f.2.1 75 (by decide) id).1]; exact c.2 i hi⟩
set_option maxRecDepth 100000 in
set_option maxHeartbeats 4000000 in
theorem q_see {h : PH} {n : Nat} {B : Nat → Nat} (ok : OKB n B) (mb : MB h n B) {q : Nat} (hq : q ≤ n) : ConF mX8_see 1 [.ref 74, .int (nI q)] h (some (.int (if q < n then nI (B q) else -1))) h := by
  have hn := ok.1
  refine Con.mk (by decide) ?_
  show RT _ _ 0 [some (.ref 74), some (.int (nI q))] [] _ _
  by_cases h0 : q < n
  · rw [if_pos h0]
    refine r_iload_1 dX8_see_0 ?_
    refine r_aload_0 dX8_see_1 ?_
    refine r_getI dX8_see_2 fl_X8_111 rfl ?_
    rw [mb.1]
    refine r_icmpN_ge 17 dX8_see_5 (by decide) (by omega) (by omega) (fun c_5 => by omega) (fun c_5 => ?_)
    refine r_aload_0 dX8_see_8 ?_
    refine r_getR (a := 75) dX8_see_9 fl_X8_15 rfl rfl ?_
    refine r_iload_1 dX8_see_12 ?_
    refine r_ialdN dX8_see_13 rfl (by omega) ?_
    rw [mb.2 q h0]
    refine r_goto 18 dX8_see_14 (by decide) ?_
    refine r_iret dX8_see_18 rfl ?_
    exact ⟨rfl, rfl⟩
  · rw [if_neg h0]
    refine r_iload_1 dX8_see_0 ?_
    refine r_aload_0 dX8_see_1 ?_
    refine r_getI dX8_see_2 fl_X8_111 rfl ?_
    rw [mb.1]
    refine r_icmpN_ge 17 dX8_see_5 (by decide) (by omega) (by omega) (fun c_5 => ?_) (fun c_5 => by omega)
    refine r_iconst (v := (-1)) dX8_see_17 (by decide) ?_
    refine r_iret dX8_see_18 rfl ?_
    exact ⟨rfl, rfl⟩

theorem see_L {n q : Nat} {B : Nat → Nat} (ok : OKB n B) : b2i ((97 : Int64) ≤ (if q < n then nI (B q) else -1).toInt64 ∧ (if q < n then nI (B q) else -1).toInt64 ≤ 122) = b2i (q < n ∧ isL (B q) = true) := by
  rw [b2i_c (in_w (a' := 97) (b' := 122) (by decide +kernel) (by decide +kernel))]
  refine b2i_c ?_
  by_cases h0 : q < n
  · rw [if_pos h0, nB_L (ok.2 q h0)]; exact ⟨fun x => ⟨h0, x⟩, fun x => x.2⟩
  · rw [if_neg h0]; exact ⟨fun x => absurd x.1 (by decide), fun x => absurd x.1 h0⟩
theorem see_D {n q : Nat} {B : Nat → Nat} (ok : OKB n B) : b2i ((48 : Int64) ≤ (if q < n then nI (B q) else -1).toInt64 ∧ (if q < n then nI (B q) else -1).toInt64 ≤ 57) = b2i (q < n ∧ isD (B q) = true) := by
  rw [b2i_c (in_w (a' := 48) (b' := 57) (by decide +kernel) (by decide +kernel))]
  refine b2i_c ?_
  by_cases h0 : q < n
  · rw [if_pos h0, nB_D (ok.2 q h0)]; exact ⟨fun x => ⟨h0, x⟩, fun x => x.2⟩
  · rw [if_neg h0]; exact ⟨fun x => absurd x.1 (by decide), fun x => absurd x.1 h0⟩
set_option maxRecDepth 100000 in
set_option maxHeartbeats 4000000 in
theorem go_sp {n : Nat} {B : Nat → Nat} (ok : OKB n B) {h0 : PH} (mb : MB h0 n B) {Q : Option Value → PH → Prop} : ∀ (m q : Nat) (h : PH), q + m = n → h.1 74 20 = nI q → FM noS (fun k => k = 20) h0 h → (∀ h', h'.1 74 20 = nI (runS isSp B m q) → FM noS (fun k => k = 20) h0 h' → RT mX8_goesOn 2 26 [some (.ref 74), none] [] h' Q) → RT mX8_goesOn 2 0 [some (.ref 74), none] [] h Q := by
  have hn := ok.1
  intro m
  induction m with
  | zero =>
    intro q h hq e3 fr K
    have c := mb.fm fr (by decide)
    refine r_aload_0 dX8_goesOn_0 ?_
    refine r_aload_0 dX8_goesOn_1 ?_
    refine r_getI dX8_goesOn_2 fl_X8_114 rfl ?_
    rw [e3]
    refine r_cV1 mX8_see dX8_goesOn_5 ml_X8_117 mo_X8_see rfl (q_see ok c (q := q) (by omega)) (by decide) ?_
    rw [if_neg (by omega)]
    refine r_bipush (v := 32) dX8_goesOn_8 (by decide) ?_
    refine r_icmp_ne 26 dX8_goesOn_10 (by decide) (fun c_10 => ?_) (fun c_10 => by exact absurd c_10 (by decide))
    exact K h e3 fr
  | succ m ih =>
    intro q h hq e3 fr K
    have c := mb.fm fr (by decide)
    have hb := (nB_c (ok.2 q (by omega))).1
    unfold runS at K
    by_cases hl : B q = 32
    · rw [if_pos (by unfold isSp; exact decide_eq_true hl)] at K
      refine r_aload_0 dX8_goesOn_0 ?_
      refine r_aload_0 dX8_goesOn_1 ?_
      refine r_getI dX8_goesOn_2 fl_X8_114 rfl ?_
      rw [e3]
      refine r_cV1 mX8_see dX8_goesOn_5 ml_X8_117 mo_X8_see rfl (q_see ok c (q := q) (by omega)) (by decide) ?_
      rw [if_pos (by omega)]
      refine r_bipush (v := 32) dX8_goesOn_8 (by decide) ?_
      refine r_icmp_ne 26 dX8_goesOn_10 (by decide) (fun c_10 => by exact absurd (hb.mpr hl) c_10) (fun c_10 => ?_)
      refine r_aload_0 dX8_goesOn_13 ?_
      refine r_dupr dX8_goesOn_14 ?_
      refine r_getI dX8_goesOn_15 fl_X8_114 rfl ?_
      rw [e3]
      refine r_iconst (v := nI 1) dX8_goesOn_18 (by decide) ?_
      refine r_iadd dX8_goesOn_19 ?_
      rw [nI_ad9]
      refine r_putI dX8_goesOn_20 fl_X8_114 rfl rfl rfl ?_
      refine r_goto 0 dX8_goesOn_23 (by decide) ?_
      exact ih (q + 1) _ (by omega) pI_eq (fr.pF rfl) K
    · rw [if_neg (by unfold isSp; simp [hl])] at K
      refine r_aload_0 dX8_goesOn_0 ?_
      refine r_aload_0 dX8_goesOn_1 ?_
      refine r_getI dX8_goesOn_2 fl_X8_114 rfl ?_
      rw [e3]
      refine r_cV1 mX8_see dX8_goesOn_5 ml_X8_117 mo_X8_see rfl (q_see ok c (q := q) (by omega)) (by decide) ?_
      rw [if_pos (by omega)]
      refine r_bipush (v := 32) dX8_goesOn_8 (by decide) ?_
      refine r_icmp_ne 26 dX8_goesOn_10 (by decide) (fun c_10 => ?_) (fun c_10 => by exact absurd (hb.mp c_10) hl)
      exact K h e3 fr
set_option maxRecDepth 100000 in
set_option maxHeartbeats 4000000 in
theorem go_L {n : Nat} {B : Nat → Nat} (ok : OKB n B) {h0 : PH} (mb : MB h0 n B) {x : Option Value} {Q : Option Value → PH → Prop} : ∀ (m q : Nat) (h : PH), q + m = n → h.1 74 20 = nI q → FM noS (fun k => k = 20) h0 h → (∀ h', h'.1 74 20 = nI (runS isL B m q) → FM noS (fun k => k = 20) h0 h' → RT mX8_goesOn 2 102 [some (.ref 74), x] [] h' Q) → RT mX8_goesOn 2 68 [some (.ref 74), x] [] h Q := by
  have hn := ok.1
  intro m
  induction m with
  | zero =>
    intro q h hq e3 fr K
    have c := mb.fm fr (by decide)
    refine r_aload_0 dX8_goesOn_68 ?_
    refine r_aload_0 dX8_goesOn_69 ?_
    refine r_getI dX8_goesOn_70 fl_X8_114 rfl ?_
    rw [e3]
    refine r_cV1 mX8_see dX8_goesOn_73 ml_X8_117 mo_X8_see rfl (q_see ok c (q := q) (by omega)) (by decide) ?_
    refine r_i2l dX8_goesOn_76 ?_
    refine r_ldc2 dX8_goesOn_77 ks_X8_127 ?_
    refine r_ldc2 dX8_goesOn_80 ks_X8_129 ?_
    refine r_cS3 mX8_in dX8_goesOn_83 ml_X8_131 mo_X8_in (q_in _ _ _ _) (by decide) ?_
    rw [see_L ok, b2i_f (fun z => by omega)]
    refine r_if_eq 102 dX8_goesOn_86 (by decide) (fun c_86 => ?_) (fun c_86 => by exact absurd rfl c_86)
    exact K h e3 fr
  | succ m ih =>
    intro q h hq e3 fr K
    have c := mb.fm fr (by decide)
    unfold runS at K
    by_cases hl : isL (B q) = true
    · rw [if_pos hl] at K
      refine r_aload_0 dX8_goesOn_68 ?_
      refine r_aload_0 dX8_goesOn_69 ?_
      refine r_getI dX8_goesOn_70 fl_X8_114 rfl ?_
      rw [e3]
      refine r_cV1 mX8_see dX8_goesOn_73 ml_X8_117 mo_X8_see rfl (q_see ok c (q := q) (by omega)) (by decide) ?_
      refine r_i2l dX8_goesOn_76 ?_
      refine r_ldc2 dX8_goesOn_77 ks_X8_127 ?_
      refine r_ldc2 dX8_goesOn_80 ks_X8_129 ?_
      refine r_cS3 mX8_in dX8_goesOn_83 ml_X8_131 mo_X8_in (q_in _ _ _ _) (by decide) ?_
      rw [see_L ok, b2i_t ⟨by omega, hl⟩]
      refine r_if_eq 102 dX8_goesOn_86 (by decide) (fun c_86 => by exact absurd c_86 (by decide)) (fun c_86 => ?_)
      refine r_aload_0 dX8_goesOn_89 ?_
      refine r_dupr dX8_goesOn_90 ?_
      refine r_getI dX8_goesOn_91 fl_X8_114 rfl ?_
      rw [e3]
      refine r_iconst (v := nI 1) dX8_goesOn_94 (by decide) ?_
      refine r_iadd dX8_goesOn_95 ?_
      rw [nI_ad9]
      refine r_putI dX8_goesOn_96 fl_X8_114 rfl rfl rfl ?_
      refine r_goto 68 dX8_goesOn_99 (by decide) ?_
      exact ih (q + 1) _ (by omega) pI_eq (fr.pF rfl) K
    · rw [if_neg hl] at K
      refine r_aload_0 dX8_goesOn_68 ?_
      refine r_aload_0 dX8_goesOn_69 ?_
      refine r_getI dX8_goesOn_70 fl_X8_114 rfl ?_
      rw [e3]
      refine r_cV1 mX8_see dX8_goesOn_73 ml_X8_117 mo_X8_see rfl (q_see ok c (q := q) (by omega)) (by decide) ?_
      refine r_i2l dX8_goesOn_76 ?_
      refine r_ldc2 dX8_goesOn_77 ks_X8_127 ?_
      refine r_ldc2 dX8_goesOn_80 ks_X8_129 ?_
      refine r_cS3 mX8_in dX8_goesOn_83 ml_X8_131 mo_X8_in (q_in _ _ _ _) (by decide) ?_
      rw [see_L ok, b2i_f (fun z => hl z.2)]
      refine r_if_eq 102 dX8_goesOn_86 (by decide) (fun c_86 => ?_) (fun c_86 => by exact absurd rfl c_86)
      exact K h e3 fr
theorem min3 {d : Nat} (h : d < 3) : min d 3 = d ∧ min (d + 1) 3 = d + 1 := by omega
theorem min3' {d : Nat} (h : ¬ d < 3) : min d 3 = 3 ∧ min (d + 1) 3 = 3 := by omega
set_option maxRecDepth 100000 in
set_option maxHeartbeats 4000000 in
theorem go_D {n : Nat} {B : Nat → Nat} (ok : OKB n B) {s : Nat} {h0 : PH} (mb : MB h0 n B) (e19 : h0.1 74 19 = nI s) {x : Option Value} {Q : Option Value → PH → Prop} : ∀ (m d : Nat) (h : PH), s + d + m = n → h.1 74 20 = nI (s + d) → h.1 74 22 = wvE B s (min d 3) → FM noS (fun k => k = 20 ∨ k = 22) h0 h → (∀ h' d', s + d' = runS isD B m (s + d) → h'.1 74 20 = nI (s + d') → h'.1 74 22 = wvE B s (min d' 3) → FM noS (fun k => k = 20 ∨ k = 22) h0 h' → RT mX8_goesOn 2 222 [some (.ref 74), x] [] h' Q) → RT mX8_goesOn 2 145 [some (.ref 74), x] [] h Q := by
  have hn := ok.1
  intro m
  induction m with
  | zero =>
    intro d h hq e3 e8 fr K
    have c := mb.fm fr (by decide)
    refine r_aload_0 dX8_goesOn_145 ?_
    refine r_aload_0 dX8_goesOn_146 ?_
    refine r_getI dX8_goesOn_147 fl_X8_114 rfl ?_
    rw [e3]
    refine r_cV1 mX8_see dX8_goesOn_150 ml_X8_117 mo_X8_see rfl (q_see ok c (q := s + d) (by omega)) (by decide) ?_
    refine r_i2l dX8_goesOn_153 ?_
    refine r_ldc2 dX8_goesOn_154 ks_X8_135 ?_
    refine r_ldc2 dX8_goesOn_157 ks_X8_137 ?_
    refine r_cS3 mX8_in dX8_goesOn_160 ml_X8_131 mo_X8_in (q_in _ _ _ _) (by decide) ?_
    rw [see_D ok, b2i_f (fun z => by omega)]
    refine r_if_eq 222 dX8_goesOn_163 (by decide) (fun c_163 => ?_) (fun c_163 => by exact absurd rfl c_163)
    exact K h d rfl e3 e8 fr
  | succ m ih =>
    intro d h hq e3 e8 fr K
    have c := mb.fm fr (by decide)
    have e5 : h.1 74 19 = nI s := (fr.1 19 (by decide)).trans e19
    unfold runS at K
    by_cases hl : isD (B (s + d)) = true
    · rw [if_pos hl] at K
      have e3' : ∀ x, (pI h 74 22 x).1 74 20 = nI (s + d) := fun x => (pI_ne 74 20 (Or.inr (by decide))).trans e3
      by_cases h3 : d < 3
      · rw [(min3 h3).1] at e8
        refine r_aload_0 dX8_goesOn_145 ?_
        refine r_aload_0 dX8_goesOn_146 ?_
        refine r_getI dX8_goesOn_147 fl_X8_114 rfl ?_
        rw [e3]
        refine r_cV1 mX8_see dX8_goesOn_150 ml_X8_117 mo_X8_see rfl (q_see ok c (q := s + d) (by omega)) (by decide) ?_
        refine r_i2l dX8_goesOn_153 ?_
        refine r_ldc2 dX8_goesOn_154 ks_X8_135 ?_
        refine r_ldc2 dX8_goesOn_157 ks_X8_137 ?_
        refine r_cS3 mX8_in dX8_goesOn_160 ml_X8_131 mo_X8_in (q_in _ _ _ _) (by decide) ?_
        rw [see_D ok, b2i_t ⟨by omega, hl⟩]
        refine r_if_eq 222 dX8_goesOn_163 (by decide) (fun c_163 => by exact absurd c_163 (by decide)) (fun c_163 => ?_)
        refine r_aload_0 dX8_goesOn_166 ?_
        refine r_aload_0 dX8_goesOn_167 ?_
        refine r_getI dX8_goesOn_168 fl_X8_114 rfl ?_
        rw [e3]
        refine r_aload_0 dX8_goesOn_171 ?_
        refine r_getI dX8_goesOn_172 fl_X8_121 rfl ?_
        rw [e5]
        refine r_isub dX8_goesOn_175 ?_
        rw [nI_sb (by omega), show s + d - s = d by omega]
        refine r_iconst (v := nI 3) dX8_goesOn_176 (by decide) ?_
        refine r_icmpN_ge 202 dX8_goesOn_177 (by decide) (by omega) (by omega) (fun c_177 => by omega) (fun c_177 => ?_)
        refine r_bipush (v := 10) dX8_goesOn_180 (by decide) ?_
        refine r_aload_0 dX8_goesOn_182 ?_
        refine r_getI dX8_goesOn_183 fl_X8_139 rfl ?_
        rw [e8]
        refine r_imul dX8_goesOn_186 ?_
        refine r_aload_0 dX8_goesOn_187 ?_
        refine r_aload_0 dX8_goesOn_188 ?_
        refine r_getI dX8_goesOn_189 fl_X8_114 rfl ?_
        rw [e3]
        refine r_cV1 mX8_see dX8_goesOn_192 ml_X8_117 mo_X8_see rfl (q_see ok c (q := s + d) (by omega)) (by decide) ?_
        rw [if_pos (show s + d < n by omega)]
        refine r_iadd dX8_goesOn_195 ?_
        refine r_bipush (v := 48) dX8_goesOn_196 (by decide) ?_
        refine r_isub dX8_goesOn_198 ?_
        refine r_goto 206 dX8_goesOn_199 (by decide) ?_
        refine r_putI dX8_goesOn_206 fl_X8_139 rfl rfl rfl ?_
        refine r_aload_0 dX8_goesOn_209 ?_
        refine r_dupr dX8_goesOn_210 ?_
        refine r_getI dX8_goesOn_211 fl_X8_114 rfl ?_
        rw [e3']
        refine r_iconst (v := nI 1) dX8_goesOn_214 (by decide) ?_
        refine r_iadd dX8_goesOn_215 ?_
        rw [nI_ad9]
        refine r_putI dX8_goesOn_216 fl_X8_114 rfl rfl rfl ?_
        refine r_goto 145 dX8_goesOn_219 (by decide) ?_
        refine ih (d + 1) _ (by omega) pI_eq ?_ ((fr.pF (Or.inr rfl)).pF (Or.inl rfl)) K
        rw [pI_ne 74 22 (Or.inr (by decide)), pI_eq, (min3 h3).2]; rfl
      · rw [(min3' h3).1] at e8
        refine r_aload_0 dX8_goesOn_145 ?_
        refine r_aload_0 dX8_goesOn_146 ?_
        refine r_getI dX8_goesOn_147 fl_X8_114 rfl ?_
        rw [e3]
        refine r_cV1 mX8_see dX8_goesOn_150 ml_X8_117 mo_X8_see rfl (q_see ok c (q := s + d) (by omega)) (by decide) ?_
        refine r_i2l dX8_goesOn_153 ?_
        refine r_ldc2 dX8_goesOn_154 ks_X8_135 ?_
        refine r_ldc2 dX8_goesOn_157 ks_X8_137 ?_
        refine r_cS3 mX8_in dX8_goesOn_160 ml_X8_131 mo_X8_in (q_in _ _ _ _) (by decide) ?_
        rw [see_D ok, b2i_t ⟨by omega, hl⟩]
        refine r_if_eq 222 dX8_goesOn_163 (by decide) (fun c_163 => by exact absurd c_163 (by decide)) (fun c_163 => ?_)
        refine r_aload_0 dX8_goesOn_166 ?_
        refine r_aload_0 dX8_goesOn_167 ?_
        refine r_getI dX8_goesOn_168 fl_X8_114 rfl ?_
        rw [e3]
        refine r_aload_0 dX8_goesOn_171 ?_
        refine r_getI dX8_goesOn_172 fl_X8_121 rfl ?_
        rw [e5]
        refine r_isub dX8_goesOn_175 ?_
        rw [nI_sb (by omega), show s + d - s = d by omega]
        refine r_iconst (v := nI 3) dX8_goesOn_176 (by decide) ?_
        refine r_icmpN_ge 202 dX8_goesOn_177 (by decide) (by omega) (by omega) (fun c_177 => ?_) (fun c_177 => by omega)
        refine r_aload_0 dX8_goesOn_202 ?_
        refine r_getI dX8_goesOn_203 fl_X8_139 rfl ?_
        rw [e8]
        refine r_putI dX8_goesOn_206 fl_X8_139 rfl rfl rfl ?_
        refine r_aload_0 dX8_goesOn_209 ?_
        refine r_dupr dX8_goesOn_210 ?_
        refine r_getI dX8_goesOn_211 fl_X8_114 rfl ?_
        rw [e3']
        refine r_iconst (v := nI 1) dX8_goesOn_214 (by decide) ?_
        refine r_iadd dX8_goesOn_215 ?_
        rw [nI_ad9]
        refine r_putI dX8_goesOn_216 fl_X8_114 rfl rfl rfl ?_
        refine r_goto 145 dX8_goesOn_219 (by decide) ?_
        refine ih (d + 1) _ (by omega) pI_eq ?_ ((fr.pF (Or.inr rfl)).pF (Or.inl rfl)) K
        rw [pI_ne 74 22 (Or.inr (by decide)), pI_eq, (min3' h3).2]
    · rw [if_neg hl] at K
      refine r_aload_0 dX8_goesOn_145 ?_
      refine r_aload_0 dX8_goesOn_146 ?_
      refine r_getI dX8_goesOn_147 fl_X8_114 rfl ?_
      rw [e3]
      refine r_cV1 mX8_see dX8_goesOn_150 ml_X8_117 mo_X8_see rfl (q_see ok c (q := s + d) (by omega)) (by decide) ?_
      refine r_i2l dX8_goesOn_153 ?_
      refine r_ldc2 dX8_goesOn_154 ks_X8_135 ?_
      refine r_ldc2 dX8_goesOn_157 ks_X8_137 ?_
      refine r_cS3 mX8_in dX8_goesOn_160 ml_X8_131 mo_X8_in (q_in _ _ _ _) (by decide) ?_
      rw [see_D ok, b2i_f (fun z => hl z.2)]
      refine r_if_eq 222 dX8_goesOn_163 (by decide) (fun c_163 => ?_) (fun c_163 => by exact absurd rfl c_163)
      exact K h d rfl e3 e8 fr
set_option maxRecDepth 100000 in
set_option maxHeartbeats 4000000 in
theorem q_goesOn {n : Nat} {B : Nat → Nat} (ok : OKB n B) {h : PH} (mb : MB h n B) {q : Nat} (hq : q ≤ n) (e3 : h.1 74 20 = nI q) : Con mX8_goesOn 2 [.ref 74] h (fun a h' => a = none ∧ (MK h' B (tkS B n q) ∧ FM noS tkF h h')) := by
  have hn := ok.1
  have rb := runS_b (p := isSp) (B := B) (n - q) q
  refine Con.mk (by decide) ?_
  show RT _ _ 0 [some (.ref 74), none] [] _ _
  refine go_sp ok mb (n - q) q h (by omega) e3 FM.rf (fun h1 g3 f1 => ?_)
  show RT _ _ _ _ _ _ (fun a h' => a = none ∧ (MK h' B (tkA B n (runS isSp B (n - q) q)) ∧ FM noS tkF h h'))
  generalize runS isSp B (n - q) q = s at g3 rb
  have f1' : FM noS tkF h h1 := f1.wk (fun _ q => q) (fun k q => Or.inr (Or.inl q))
  have ff : FM noS tkF h (pI h1 74 19 (nI s)) := f1'.pF (Or.inl rfl)
  have c1 : MB (pI h1 74 19 (nI s)) n B := mb.fm ff (by unfold tkF; omega)
  have d3 : (pI h1 74 19 (nI s)).1 74 20 = nI s := (pI_ne 74 20 (Or.inr (by decide))).trans g3
  have d5 : (pI h1 74 19 (nI s)).1 74 19 = nI s := pI_eq
  have hs : s ≤ n := by omega
  refine r_aload_0 dX8_goesOn_26 ?_
  refine r_aload_0 dX8_goesOn_27 ?_
  refine r_getI dX8_goesOn_28 fl_X8_114 rfl ?_
  rw [g3]
  refine r_putI dX8_goesOn_31 fl_X8_121 rfl rfl rfl ?_
  generalize pI h1 74 19 (nI s) = h2 at c1 d3 d5 ff
  by_cases h0 : s < n
  · unfold tkA
    rw [if_pos h0]
    have hb := ok.2 s h0
    have hc := nB_c hb
    by_cases hl : isL (B s) = true
    · rw [if_pos hl]
      refine r_aload_0 dX8_goesOn_34 ?_
      refine r_aload_0 dX8_goesOn_35 ?_
      refine r_getI dX8_goesOn_36 fl_X8_114 rfl ?_
      rw [d3]
      refine r_cV1 mX8_see dX8_goesOn_39 ml_X8_117 mo_X8_see rfl (q_see ok c1 hs) (by decide) ?_
      refine r_istore_1 dX8_goesOn_42 ?_
      refine r_iload_1 dX8_goesOn_43 ?_
      refine r_iconst (v := (-1)) dX8_goesOn_44 (by decide) ?_
      refine r_icmp_ne 54 dX8_goesOn_45 (by decide) (fun c_45 => ?_) (fun c_45 => by exact absurd c_45 (by rw [if_pos h0]; exact hc.2.2.2))
      refine r_iload_1 dX8_goesOn_54 ?_
      refine r_i2l dX8_goesOn_55 ?_
      refine r_ldc2 dX8_goesOn_56 ks_X8_127 ?_
      refine r_ldc2 dX8_goesOn_59 ks_X8_129 ?_
      refine r_cS3 mX8_in dX8_goesOn_62 ml_X8_131 mo_X8_in (q_in _ _ _ _) (by decide) ?_
      rw [see_L ok, b2i_t ⟨h0, hl⟩]
      refine r_if_eq 126 dX8_goesOn_65 (by decide) (fun c_65 => by exact absurd c_65 (by decide)) (fun c_65 => ?_)
      refine go_L ok c1 (n - s) s h2 (by omega) d3 FM.rf (fun h3 g3 f3 => ?_)
      have rl := runS_b (p := isL) (B := B) (n - s) s
      have g5 : h3.1 74 19 = nI s := (f3.1 19 (by decide)).trans d5
      have f3' : FM noS tkF h h3 := ff.tr (f3.wk (fun _ q => q) (fun k q => Or.inr (Or.inl q)))
      by_cases h6 : runS isL B (n - s) s - s ≤ 6
      · refine r_aload_0 dX8_goesOn_102 ?_
        refine r_aload_0 dX8_goesOn_103 ?_
        refine r_getI dX8_goesOn_104 fl_X8_114 rfl ?_
        rw [g3]
        refine r_aload_0 dX8_goesOn_107 ?_
        refine r_getI dX8_goesOn_108 fl_X8_121 rfl ?_
        rw [g5]
        refine r_isub dX8_goesOn_111 ?_
        rw [nI_sb (by omega)]
        refine r_bipush (v := nI 6) dX8_goesOn_112 (by decide) ?_
        refine r_icmpN_le 121 dX8_goesOn_114 (by decide) (by omega) (by omega) (fun c_114 => ?_) (fun c_114 => by omega)
        refine r_iconst (v := 2) dX8_goesOn_121 (by decide) ?_
        refine r_putI dX8_goesOn_122 fl_X8_124 rfl rfl rfl ?_
        refine r_vret dX8_goesOn_125 rfl ?_
        rw [if_pos h6]
        exact ⟨rfl, ⟨pI_eq, (pI_ne 74 19 (Or.inr (by decide))).trans g5, (pI_ne 74 20 (Or.inr (by decide))).trans g3, fun q => (by simp at q)⟩, f3'.pF (Or.inr (Or.inr (Or.inl rfl)))⟩
      · refine r_aload_0 dX8_goesOn_102 ?_
        refine r_aload_0 dX8_goesOn_103 ?_
        refine r_getI dX8_goesOn_104 fl_X8_114 rfl ?_
        rw [g3]
        refine r_aload_0 dX8_goesOn_107 ?_
        refine r_getI dX8_goesOn_108 fl_X8_121 rfl ?_
        rw [g5]
        refine r_isub dX8_goesOn_111 ?_
        rw [nI_sb (by omega)]
        refine r_bipush (v := nI 6) dX8_goesOn_112 (by decide) ?_
        refine r_icmpN_le 121 dX8_goesOn_114 (by decide) (by omega) (by omega) (fun c_114 => by omega) (fun c_114 => ?_)
        refine r_iconst (v := 1) dX8_goesOn_117 (by decide) ?_
        refine r_goto 122 dX8_goesOn_118 (by decide) ?_
        refine r_putI dX8_goesOn_122 fl_X8_124 rfl rfl rfl ?_
        refine r_vret dX8_goesOn_125 rfl ?_
        rw [if_neg h6]
        exact ⟨rfl, ⟨pI_eq, (pI_ne 74 19 (Or.inr (by decide))).trans g5, (pI_ne 74 20 (Or.inr (by decide))).trans g3, fun q => (by simp at q)⟩, f3'.pF (Or.inr (Or.inr (Or.inl rfl)))⟩
    · rw [if_neg hl]
      by_cases hd : isD (B s) = true
      · rw [if_pos hd]
        refine r_aload_0 dX8_goesOn_34 ?_
        refine r_aload_0 dX8_goesOn_35 ?_
        refine r_getI dX8_goesOn_36 fl_X8_114 rfl ?_
        rw [d3]
        refine r_cV1 mX8_see dX8_goesOn_39 ml_X8_117 mo_X8_see rfl (q_see ok c1 hs) (by decide) ?_
        refine r_istore_1 dX8_goesOn_42 ?_
        refine r_iload_1 dX8_goesOn_43 ?_
        refine r_iconst (v := (-1)) dX8_goesOn_44 (by decide) ?_
        refine r_icmp_ne 54 dX8_goesOn_45 (by decide) (fun c_45 => ?_) (fun c_45 => by exact absurd c_45 (by rw [if_pos h0]; exact hc.2.2.2))
        refine r_iload_1 dX8_goesOn_54 ?_
        refine r_i2l dX8_goesOn_55 ?_
        refine r_ldc2 dX8_goesOn_56 ks_X8_127 ?_
        refine r_ldc2 dX8_goesOn_59 ks_X8_129 ?_
        refine r_cS3 mX8_in dX8_goesOn_62 ml_X8_131 mo_X8_in (q_in _ _ _ _) (by decide) ?_
        rw [see_L ok, b2i_f (fun z => hl z.2)]
        refine r_if_eq 126 dX8_goesOn_65 (by decide) (fun c_65 => ?_) (fun c_65 => by exact absurd rfl c_65)
        refine r_iload_1 dX8_goesOn_126 ?_
        refine r_i2l dX8_goesOn_127 ?_
        refine r_ldc2 dX8_goesOn_128 ks_X8_135 ?_
        refine r_ldc2 dX8_goesOn_131 ks_X8_137 ?_
        refine r_cS3 mX8_in dX8_goesOn_134 ml_X8_131 mo_X8_in (q_in _ _ _ _) (by decide) ?_
        rw [see_D ok, b2i_t ⟨h0, hd⟩]
        refine r_if_eq 245 dX8_goesOn_137 (by decide) (fun c_137 => by exact absurd c_137 (by decide)) (fun c_137 => ?_)
        refine r_aload_0 dX8_goesOn_140 ?_
        refine r_iconst (v := 0) dX8_goesOn_141 (by decide) ?_
        refine r_putI dX8_goesOn_142 fl_X8_139 rfl rfl rfl ?_
        refine go_D ok (s := s) (h0 := pI h2 74 22 0) (c1.fm (F := fun k => k = 22) (FM.rf.pF rfl) (by decide)) ((pI_ne 74 19 (Or.inr (by decide))).trans d5) (n - s) 0 _ (by omega) ((pI_ne 74 20 (Or.inr (by decide))).trans d3) pI_eq FM.rf (fun h3 d hd' g3 g8 f3 => ?_)
        have hdd : runS isD B (n - s) s = s + d := hd'.symm
        have rd := runS_b (p := isD) (B := B) (n - s) s
        have g5 : h3.1 74 19 = nI s := (f3.1 19 (by decide)).trans ((pI_ne 74 19 (Or.inr (by decide))).trans d5)
        have f3' : FM noS tkF h h3 := (ff.pF (Or.inr (Or.inr (Or.inr rfl)))).tr (f3.wk (fun _ q => q) (fun k q => by rcases q with q | q; exact Or.inr (Or.inl q); exact Or.inr (Or.inr (Or.inr q))))
        rw [hdd]
        rw [show s + d - s = d by omega]
        by_cases h6 : d ≤ 3
        · refine r_aload_0 dX8_goesOn_222 ?_
          refine r_aload_0 dX8_goesOn_223 ?_
          refine r_getI dX8_goesOn_224 fl_X8_114 rfl ?_
          rw [g3]
          refine r_aload_0 dX8_goesOn_227 ?_
          refine r_getI dX8_goesOn_228 fl_X8_121 rfl ?_
          rw [g5]
          refine r_isub dX8_goesOn_231 ?_
          rw [nI_sb (by omega), show s + d - s = d by omega]
          refine r_iconst (v := nI 3) dX8_goesOn_232 (by decide) ?_
          refine r_icmpN_le 240 dX8_goesOn_233 (by decide) (by omega) (by omega) (fun c_233 => ?_) (fun c_233 => by omega)
          refine r_iconst (v := 3) dX8_goesOn_240 (by decide) ?_
          refine r_putI dX8_goesOn_241 fl_X8_124 rfl rfl rfl ?_
          refine r_vret dX8_goesOn_244 rfl ?_
          rw [if_pos h6]
          refine ⟨rfl, ⟨pI_eq, (pI_ne 74 19 (Or.inr (by decide))).trans g5, (pI_ne 74 20 (Or.inr (by decide))).trans g3, fun q => ?_⟩, f3'.pF (Or.inr (Or.inr (Or.inl rfl)))⟩
          rw [pI_ne 74 22 (Or.inr (by decide)), g8, show min d 3 = d by omega]
          show _ = wvE B s (s + d - s)
          rw [show s + d - s = d by omega]
        · refine r_aload_0 dX8_goesOn_222 ?_
          refine r_aload_0 dX8_goesOn_223 ?_
          refine r_getI dX8_goesOn_224 fl_X8_114 rfl ?_
          rw [g3]
          refine r_aload_0 dX8_goesOn_227 ?_
          refine r_getI dX8_goesOn_228 fl_X8_121 rfl ?_
          rw [g5]
          refine r_isub dX8_goesOn_231 ?_
          rw [nI_sb (by omega), show s + d - s = d by omega]
          refine r_iconst (v := nI 3) dX8_goesOn_232 (by decide) ?_
          refine r_icmpN_le 240 dX8_goesOn_233 (by decide) (by omega) (by omega) (fun c_233 => by omega) (fun c_233 => ?_)
          refine r_iconst (v := 1) dX8_goesOn_236 (by decide) ?_
          refine r_goto 241 dX8_goesOn_237 (by decide) ?_
          refine r_putI dX8_goesOn_241 fl_X8_124 rfl rfl rfl ?_
          refine r_vret dX8_goesOn_244 rfl ?_
          rw [if_neg h6]
          exact ⟨rfl, ⟨pI_eq, (pI_ne 74 19 (Or.inr (by decide))).trans g5, (pI_ne 74 20 (Or.inr (by decide))).trans g3, fun q => (by simp at q)⟩, f3'.pF (Or.inr (Or.inr (Or.inl rfl)))⟩
      · rw [if_neg hd]
        by_cases h59 : B s = 59
        · rw [if_pos h59]
          refine r_aload_0 dX8_goesOn_34 ?_
          refine r_aload_0 dX8_goesOn_35 ?_
          refine r_getI dX8_goesOn_36 fl_X8_114 rfl ?_
          rw [d3]
          refine r_cV1 mX8_see dX8_goesOn_39 ml_X8_117 mo_X8_see rfl (q_see ok c1 hs) (by decide) ?_
          refine r_istore_1 dX8_goesOn_42 ?_
          refine r_iload_1 dX8_goesOn_43 ?_
          refine r_iconst (v := (-1)) dX8_goesOn_44 (by decide) ?_
          refine r_icmp_ne 54 dX8_goesOn_45 (by decide) (fun c_45 => ?_) (fun c_45 => by exact absurd c_45 (by rw [if_pos h0]; exact hc.2.2.2))
          refine r_iload_1 dX8_goesOn_54 ?_
          refine r_i2l dX8_goesOn_55 ?_
          refine r_ldc2 dX8_goesOn_56 ks_X8_127 ?_
          refine r_ldc2 dX8_goesOn_59 ks_X8_129 ?_
          refine r_cS3 mX8_in dX8_goesOn_62 ml_X8_131 mo_X8_in (q_in _ _ _ _) (by decide) ?_
          rw [see_L ok, b2i_f (fun z => hl z.2)]
          refine r_if_eq 126 dX8_goesOn_65 (by decide) (fun c_65 => ?_) (fun c_65 => by exact absurd rfl c_65)
          refine r_iload_1 dX8_goesOn_126 ?_
          refine r_i2l dX8_goesOn_127 ?_
          refine r_ldc2 dX8_goesOn_128 ks_X8_135 ?_
          refine r_ldc2 dX8_goesOn_131 ks_X8_137 ?_
          refine r_cS3 mX8_in dX8_goesOn_134 ml_X8_131 mo_X8_in (q_in _ _ _ _) (by decide) ?_
          rw [see_D ok, b2i_f (fun z => hd z.2)]
          refine r_if_eq 245 dX8_goesOn_137 (by decide) (fun c_137 => ?_) (fun c_137 => by exact absurd rfl c_137)
          refine r_aload_0 dX8_goesOn_245 ?_
          refine r_dupr dX8_goesOn_246 ?_
          refine r_getI dX8_goesOn_247 fl_X8_114 rfl ?_
          rw [d3]
          refine r_iconst (v := nI 1) dX8_goesOn_250 (by decide) ?_
          refine r_iadd dX8_goesOn_251 ?_
          rw [nI_ad9]
          refine r_putI dX8_goesOn_252 fl_X8_114 rfl rfl rfl ?_
          refine r_aload_0 dX8_goesOn_255 ?_
          refine r_iload_1 dX8_goesOn_256 ?_
          refine r_bipush (v := 59) dX8_goesOn_257 (by decide) ?_
          refine r_icmp_eq 268 dX8_goesOn_259 (by decide) (fun c_259 => ?_) (fun c_259 => by exact absurd (by rw [if_pos h0]; exact hc.2.1.mpr h59) c_259)
          refine r_iload_1 dX8_goesOn_268 ?_
          refine r_goto 273 dX8_goesOn_269 (by decide) ?_
          refine r_putI dX8_goesOn_273 fl_X8_124 rfl rfl rfl ?_
          refine r_vret dX8_goesOn_276 rfl ?_
          refine ⟨rfl, ⟨?_, ((pI_ne 74 19 (Or.inr (by decide))).trans (pI_ne 74 19 (Or.inr (by decide)))).trans d5, (pI_ne 74 20 (Or.inr (by decide))).trans pI_eq, fun q => (by simp at q)⟩, (ff.pF (Or.inr (Or.inl rfl))).pF (Or.inr (Or.inr (Or.inl rfl)))⟩
          rw [pI_eq]; show (if s < n then nI (B s) else -1) = tkM 3; rw [if_pos h0, h59]; rfl
        · rw [if_neg h59]
          by_cases h44 : B s = 44
          · rw [if_pos h44]
            refine r_aload_0 dX8_goesOn_34 ?_
            refine r_aload_0 dX8_goesOn_35 ?_
            refine r_getI dX8_goesOn_36 fl_X8_114 rfl ?_
            rw [d3]
            refine r_cV1 mX8_see dX8_goesOn_39 ml_X8_117 mo_X8_see rfl (q_see ok c1 hs) (by decide) ?_
            refine r_istore_1 dX8_goesOn_42 ?_
            refine r_iload_1 dX8_goesOn_43 ?_
            refine r_iconst (v := (-1)) dX8_goesOn_44 (by decide) ?_
            refine r_icmp_ne 54 dX8_goesOn_45 (by decide) (fun c_45 => ?_) (fun c_45 => by exact absurd c_45 (by rw [if_pos h0]; exact hc.2.2.2))
            refine r_iload_1 dX8_goesOn_54 ?_
            refine r_i2l dX8_goesOn_55 ?_
            refine r_ldc2 dX8_goesOn_56 ks_X8_127 ?_
            refine r_ldc2 dX8_goesOn_59 ks_X8_129 ?_
            refine r_cS3 mX8_in dX8_goesOn_62 ml_X8_131 mo_X8_in (q_in _ _ _ _) (by decide) ?_
            rw [see_L ok, b2i_f (fun z => hl z.2)]
            refine r_if_eq 126 dX8_goesOn_65 (by decide) (fun c_65 => ?_) (fun c_65 => by exact absurd rfl c_65)
            refine r_iload_1 dX8_goesOn_126 ?_
            refine r_i2l dX8_goesOn_127 ?_
            refine r_ldc2 dX8_goesOn_128 ks_X8_135 ?_
            refine r_ldc2 dX8_goesOn_131 ks_X8_137 ?_
            refine r_cS3 mX8_in dX8_goesOn_134 ml_X8_131 mo_X8_in (q_in _ _ _ _) (by decide) ?_
            rw [see_D ok, b2i_f (fun z => hd z.2)]
            refine r_if_eq 245 dX8_goesOn_137 (by decide) (fun c_137 => ?_) (fun c_137 => by exact absurd rfl c_137)
            refine r_aload_0 dX8_goesOn_245 ?_
            refine r_dupr dX8_goesOn_246 ?_
            refine r_getI dX8_goesOn_247 fl_X8_114 rfl ?_
            rw [d3]
            refine r_iconst (v := nI 1) dX8_goesOn_250 (by decide) ?_
            refine r_iadd dX8_goesOn_251 ?_
            rw [nI_ad9]
            refine r_putI dX8_goesOn_252 fl_X8_114 rfl rfl rfl ?_
            refine r_aload_0 dX8_goesOn_255 ?_
            refine r_iload_1 dX8_goesOn_256 ?_
            refine r_bipush (v := 59) dX8_goesOn_257 (by decide) ?_
            refine r_icmp_eq 268 dX8_goesOn_259 (by decide) (fun c_259 => by exact absurd (hc.2.1.mp ((if_pos h0).symm.trans c_259)) h59) (fun c_259 => ?_)
            refine r_iload_1 dX8_goesOn_262 ?_
            refine r_bipush (v := 44) dX8_goesOn_263 (by decide) ?_
            refine r_icmp_ne 272 dX8_goesOn_265 (by decide) (fun c_265 => by exact absurd (by rw [if_pos h0]; exact hc.2.2.1.mpr h44) c_265) (fun c_265 => ?_)
            refine r_iload_1 dX8_goesOn_268 ?_
            refine r_goto 273 dX8_goesOn_269 (by decide) ?_
            refine r_putI dX8_goesOn_273 fl_X8_124 rfl rfl rfl ?_
            refine r_vret dX8_goesOn_276 rfl ?_
            refine ⟨rfl, ⟨?_, ((pI_ne 74 19 (Or.inr (by decide))).trans (pI_ne 74 19 (Or.inr (by decide)))).trans d5, (pI_ne 74 20 (Or.inr (by decide))).trans pI_eq, fun q => (by simp at q)⟩, (ff.pF (Or.inr (Or.inl rfl))).pF (Or.inr (Or.inr (Or.inl rfl)))⟩
            rw [pI_eq]; show (if s < n then nI (B s) else -1) = tkM 4; rw [if_pos h0, h44]; rfl
          · rw [if_neg h44]
            refine r_aload_0 dX8_goesOn_34 ?_
            refine r_aload_0 dX8_goesOn_35 ?_
            refine r_getI dX8_goesOn_36 fl_X8_114 rfl ?_
            rw [d3]
            refine r_cV1 mX8_see dX8_goesOn_39 ml_X8_117 mo_X8_see rfl (q_see ok c1 hs) (by decide) ?_
            refine r_istore_1 dX8_goesOn_42 ?_
            refine r_iload_1 dX8_goesOn_43 ?_
            refine r_iconst (v := (-1)) dX8_goesOn_44 (by decide) ?_
            refine r_icmp_ne 54 dX8_goesOn_45 (by decide) (fun c_45 => ?_) (fun c_45 => by exact absurd c_45 (by rw [if_pos h0]; exact hc.2.2.2))
            refine r_iload_1 dX8_goesOn_54 ?_
            refine r_i2l dX8_goesOn_55 ?_
            refine r_ldc2 dX8_goesOn_56 ks_X8_127 ?_
            refine r_ldc2 dX8_goesOn_59 ks_X8_129 ?_
            refine r_cS3 mX8_in dX8_goesOn_62 ml_X8_131 mo_X8_in (q_in _ _ _ _) (by decide) ?_
            rw [see_L ok, b2i_f (fun z => hl z.2)]
            refine r_if_eq 126 dX8_goesOn_65 (by decide) (fun c_65 => ?_) (fun c_65 => by exact absurd rfl c_65)
            refine r_iload_1 dX8_goesOn_126 ?_
            refine r_i2l dX8_goesOn_127 ?_
            refine r_ldc2 dX8_goesOn_128 ks_X8_135 ?_
            refine r_ldc2 dX8_goesOn_131 ks_X8_137 ?_
            refine r_cS3 mX8_in dX8_goesOn_134 ml_X8_131 mo_X8_in (q_in _ _ _ _) (by decide) ?_
            rw [see_D ok, b2i_f (fun z => hd z.2)]
            refine r_if_eq 245 dX8_goesOn_137 (by decide) (fun c_137 => ?_) (fun c_137 => by exact absurd rfl c_137)
            refine r_aload_0 dX8_goesOn_245 ?_
            refine r_dupr dX8_goesOn_246 ?_
            refine r_getI dX8_goesOn_247 fl_X8_114 rfl ?_
            rw [d3]
            refine r_iconst (v := nI 1) dX8_goesOn_250 (by decide) ?_
            refine r_iadd dX8_goesOn_251 ?_
            rw [nI_ad9]
            refine r_putI dX8_goesOn_252 fl_X8_114 rfl rfl rfl ?_
            refine r_aload_0 dX8_goesOn_255 ?_
            refine r_iload_1 dX8_goesOn_256 ?_
            refine r_bipush (v := 59) dX8_goesOn_257 (by decide) ?_
            refine r_icmp_eq 268 dX8_goesOn_259 (by decide) (fun c_259 => by exact absurd (hc.2.1.mp ((if_pos h0).symm.trans c_259)) h59) (fun c_259 => ?_)
            refine r_iload_1 dX8_goesOn_262 ?_
            refine r_bipush (v := 44) dX8_goesOn_263 (by decide) ?_
            refine r_icmp_ne 272 dX8_goesOn_265 (by decide) (fun c_265 => ?_) (fun c_265 => by exact absurd (hc.2.2.1.mp ((if_pos h0).symm.trans c_265)) h44)
            refine r_iconst (v := 1) dX8_goesOn_272 (by decide) ?_
            refine r_putI dX8_goesOn_273 fl_X8_124 rfl rfl rfl ?_
            refine r_vret dX8_goesOn_276 rfl ?_
            refine ⟨rfl, ⟨?_, ((pI_ne 74 19 (Or.inr (by decide))).trans (pI_ne 74 19 (Or.inr (by decide)))).trans d5, (pI_ne 74 20 (Or.inr (by decide))).trans pI_eq, fun q => (by simp at q)⟩, (ff.pF (Or.inr (Or.inl rfl))).pF (Or.inr (Or.inr (Or.inl rfl)))⟩
            rw [pI_eq]; rfl
  · have : s = n := by omega
    unfold tkA
    rw [if_neg h0]
    refine r_aload_0 dX8_goesOn_34 ?_
    refine r_aload_0 dX8_goesOn_35 ?_
    refine r_getI dX8_goesOn_36 fl_X8_114 rfl ?_
    rw [d3]
    refine r_cV1 mX8_see dX8_goesOn_39 ml_X8_117 mo_X8_see rfl (q_see ok c1 hs) (by decide) ?_
    refine r_istore_1 dX8_goesOn_42 ?_
    refine r_iload_1 dX8_goesOn_43 ?_
    refine r_iconst (v := (-1)) dX8_goesOn_44 (by decide) ?_
    refine r_icmp_ne 54 dX8_goesOn_45 (by decide) (fun c_45 => by exact absurd (if_neg h0) c_45) (fun c_45 => ?_)
    refine r_aload_0 dX8_goesOn_48 ?_
    refine r_iconst (v := 0) dX8_goesOn_49 (by decide) ?_
    refine r_putI dX8_goesOn_50 fl_X8_124 rfl rfl rfl ?_
    refine r_vret dX8_goesOn_53 rfl ?_
    exact ⟨rfl, ⟨pI_eq, (pI_ne 74 19 (Or.inr (by decide))).trans d5, (pI_ne 74 20 (Or.inr (by decide))).trans d3, fun q => (by simp at q)⟩, ff.pF (Or.inr (Or.inr (Or.inl rfl)))⟩

