/-! ===== the reference: what is read stands ===== -/
set_option maxRecDepth 100000 in
set_option maxHeartbeats 4000000 in
theorem st_9 (h0 : PH) {Q : Option Value → PH → Prop} (K : ∀ h', (∀ i, i < 9 → h'.1 76 i = h0.1 76 (9 + i)) → (∀ i, i < 9 → h'.1 77 i = h0.1 77 (9 + i)) → (∀ i, i < 9 → h'.1 94 i = 0) → h'.2 = h0.2 → FM (fun y => y = 76 ∨ y = 77 ∨ y = 94) noF h0 h' → RT mX8_stands 1 77 [some (.ref 74), none] [] h' Q) : ∀ (m k : Nat) (h : PH), k + m = 9 → (∀ i, i < k → h.1 76 i = h0.1 76 (9 + i)) → (∀ i, i < k → h.1 77 i = h0.1 77 (9 + i)) → (∀ i, k ≤ i → h.1 76 i = h0.1 76 i) → (∀ i, k ≤ i → h.1 77 i = h0.1 77 i) → (∀ i, i < k → h.1 94 i = 0) → h.2 = h0.2 → FM (fun y => y = 76 ∨ y = 77 ∨ y = 94) noF h0 h → RT mX8_stands 1 28 [some (.ref 74), some (.int (nI k))] [] h Q := by
  intro m
  induction m with
  | zero =>
    intro k h hk a76 a77 b76 b77 z94 e2 fr
    have : k = 9 := by omega
    subst this
    refine r_iload_1 dX8_stands_28 ?_
    refine r_bipush (v := nI 9) dX8_stands_29 (by decide) ?_
    refine r_icmpN_ge 77 dX8_stands_31 (by decide) (by omega) (by omega) (fun c_31 => ?_) (fun c_31 => by omega)
    refine RT.sub (lv' := [some (.ref 74), none]) (by simp [lsub]) ?_
    exact K h a76 a77 z94 e2 fr
  | succ m ih =>
    intro k h hk a76 a77 b76 b77 z94 e2 fr
    refine r_iload_1 dX8_stands_28 ?_
    refine r_bipush (v := nI 9) dX8_stands_29 (by decide) ?_
    refine r_icmpN_ge 77 dX8_stands_31 (by decide) (by omega) (by omega) (fun c_31 => by omega) (fun c_31 => ?_)
    refine r_aload_0 dX8_stands_34 ?_
    refine r_getR (a := 76) dX8_stands_35 fl_X8_19 rfl rfl ?_
    refine r_iload_1 dX8_stands_38 ?_
    refine r_aload_0 dX8_stands_39 ?_
    refine r_getR (a := 76) dX8_stands_40 fl_X8_19 rfl rfl ?_
    refine r_bipush (v := nI 9) dX8_stands_43 (by decide) ?_
    refine r_iload_1 dX8_stands_45 ?_
    refine r_iadd dX8_stands_46 ?_
    rw [nI_ad9]
    refine r_ialdN dX8_stands_47 rfl (by omega) ?_
    refine r_iastN dX8_stands_48 rfl (by omega) ?_
    refine r_aload_0 dX8_stands_49 ?_
    refine r_getR (a := 77) dX8_stands_50 fl_X8_22 rfl rfl ?_
    refine r_iload_1 dX8_stands_53 ?_
    refine r_aload_0 dX8_stands_54 ?_
    refine r_getR (a := 77) dX8_stands_55 fl_X8_22 rfl rfl ?_
    refine r_bipush (v := nI 9) dX8_stands_58 (by decide) ?_
    refine r_iload_1 dX8_stands_60 ?_
    refine r_iadd dX8_stands_61 ?_
    rw [nI_ad9]
    refine r_ialdN dX8_stands_62 rfl (by omega) ?_
    refine r_iastN dX8_stands_63 rfl (by omega) ?_
    refine r_aload_0 dX8_stands_64 ?_
    refine r_getR (a := 94) dX8_stands_65 fl_X8_80 rfl rfl ?_
    refine r_iload_1 dX8_stands_68 ?_
    refine r_iconst (v := 0) dX8_stands_69 (by decide) ?_
    refine r_zastN dX8_stands_70 rfl (by omega) ?_
    refine r_iincN_1 dX8_stands_71 ?_
    refine r_goto 28 dX8_stands_74 (by decide) ?_
    refine ih (k + 1) _ (by omega) (fun i hi => ?_) (fun i hi => ?_) (fun i hi => ?_) (fun i hi => ?_) (fun i hi => ?_) e2 (((fr.pI (by decide) (Or.inl rfl)).pI (by decide) (Or.inr (Or.inl rfl))).pI (by decide) (Or.inr (Or.inr rfl)))
    · rw [pI_ne 76 _ (Or.inl (by decide)), pI_ne 76 _ (Or.inl (by decide))]
      by_cases q : i = k
      · rw [q, pI_eq]; exact b76 _ (by omega)
      · rw [pI_ne 76 _ (Or.inr q)]; exact a76 i (by omega)
    · rw [pI_ne 77 _ (Or.inl (by decide))]
      by_cases q : i = k
      · rw [q, pI_eq, pI_ne 77 _ (Or.inl (by decide))]; exact b77 _ (by omega)
      · rw [pI_ne 77 _ (Or.inr q), pI_ne 77 _ (Or.inl (by decide))]; exact a77 i (by omega)
    · rw [pI_ne 76 _ (Or.inl (by decide)), pI_ne 76 _ (Or.inl (by decide)), pI_ne 76 _ (Or.inr (by omega))]; exact b76 i (by omega)
    · rw [pI_ne 77 _ (Or.inl (by decide)), pI_ne 77 _ (Or.inr (by omega)), pI_ne 77 _ (Or.inl (by decide))]; exact b77 i (by omega)
    · by_cases q : i = k
      · rw [q]; first | exact pI_eq | (rw [pI_eq]; decide)
      · rw [pI_ne 94 _ (Or.inr q), pI_ne 94 _ (Or.inl (by decide)), pI_ne 94 _ (Or.inl (by decide))]; exact z94 i (by omega)
set_option maxRecDepth 100000 in
set_option maxHeartbeats 4000000 in
theorem st_54 (h0 : PH) {Q : Option Value → PH → Prop} (K : ∀ h', (∀ i, i < 54 → h'.1 78 i = h0.1 78 (54 + i)) → h'.2 = h0.2 → FM (fun y => y = 78) noF h0 h' → RT mX8_stands 1 106 [some (.ref 74), none] [] h' Q) : ∀ (m k : Nat) (h : PH), k + m = 54 → (∀ i, i < k → h.1 78 i = h0.1 78 (54 + i)) → (∀ i, k ≤ i → h.1 78 i = h0.1 78 i) → h.2 = h0.2 → FM (fun y => y = 78) noF h0 h → RT mX8_stands 1 79 [some (.ref 74), some (.int (nI k))] [] h Q := by
  intro m
  induction m with
  | zero =>
    intro k h hk a78 b78 e2 fr
    have : k = 54 := by omega
    subst this
    refine r_iload_1 dX8_stands_79 ?_
    refine r_bipush (v := nI 54) dX8_stands_80 (by decide) ?_
    refine r_icmpN_ge 106 dX8_stands_82 (by decide) (by omega) (by omega) (fun c_82 => ?_) (fun c_82 => by omega)
    refine RT.sub (lv' := [some (.ref 74), none]) (by simp [lsub]) ?_
    exact K h a78 e2 fr
  | succ m ih =>
    intro k h hk a78 b78 e2 fr
    refine r_iload_1 dX8_stands_79 ?_
    refine r_bipush (v := nI 54) dX8_stands_80 (by decide) ?_
    refine r_icmpN_ge 106 dX8_stands_82 (by decide) (by omega) (by omega) (fun c_82 => by omega) (fun c_82 => ?_)
    refine r_aload_0 dX8_stands_85 ?_
    refine r_getR (a := 78) dX8_stands_86 fl_X8_25 rfl rfl ?_
    refine r_iload_1 dX8_stands_89 ?_
    refine r_aload_0 dX8_stands_90 ?_
    refine r_getR (a := 78) dX8_stands_91 fl_X8_25 rfl rfl ?_
    refine r_bipush (v := nI 54) dX8_stands_94 (by decide) ?_
    refine r_iload_1 dX8_stands_96 ?_
    refine r_iadd dX8_stands_97 ?_
    rw [nI_ad9]
    refine r_ialdN dX8_stands_98 rfl (by omega) ?_
    refine r_iastN dX8_stands_99 rfl (by omega) ?_
    refine r_iincN_1 dX8_stands_100 ?_
    refine r_goto 79 dX8_stands_103 (by decide) ?_
    refine ih (k + 1) _ (by omega) (fun i hi => ?_) (fun i hi => ?_) e2 (fr.pI (by decide) rfl)
    · by_cases q : i = k
      · rw [q, pI_eq]; exact b78 _ (by omega)
      · rw [pI_ne 78 _ (Or.inr q)]; exact a78 i (by omega)
    · rw [pI_ne 78 _ (Or.inr (by omega))]; exact b78 i (by omega)
set_option maxRecDepth 100000 in
set_option maxHeartbeats 4000000 in
theorem st_14 (h0 : PH) {Q : Option Value → PH → Prop} (K : ∀ h', (∀ i, i < 14 → h'.1 79 i = h0.1 79 (14 + i)) → (∀ i, i < 14 → h'.1 80 i = h0.1 80 (14 + i)) → (∀ i, i < 14 → h'.1 81 i = h0.1 81 (14 + i)) → (∀ i, i < 14 → h'.1 82 i = h0.1 82 (14 + i)) → (∀ i, i < 14 → h'.1 84 i = h0.1 84 (14 + i)) → h'.2 = h0.2 → FM (fun y => y = 79 ∨ y = 80 ∨ y = 81 ∨ y = 82 ∨ y = 84) noF h0 h' → RT mX8_stands 1 195 [some (.ref 74), none] [] h' Q) : ∀ (m k : Nat) (h : PH), k + m = 14 → (∀ i, i < k → h.1 79 i = h0.1 79 (14 + i)) → (∀ i, i < k → h.1 80 i = h0.1 80 (14 + i)) → (∀ i, i < k → h.1 81 i = h0.1 81 (14 + i)) → (∀ i, i < k → h.1 82 i = h0.1 82 (14 + i)) → (∀ i, i < k → h.1 84 i = h0.1 84 (14 + i)) → (∀ i, k ≤ i → h.1 79 i = h0.1 79 i) → (∀ i, k ≤ i → h.1 80 i = h0.1 80 i) → (∀ i, k ≤ i → h.1 81 i = h0.1 81 i) → (∀ i, k ≤ i → h.1 82 i = h0.1 82 i) → (∀ i, k ≤ i → h.1 84 i = h0.1 84 i) → h.2 = h0.2 → FM (fun y => y = 79 ∨ y = 80 ∨ y = 81 ∨ y = 82 ∨ y = 84) noF h0 h → RT mX8_stands 1 108 [some (.ref 74), some (.int (nI k))] [] h Q := by
  intro m
  induction m with
  | zero =>
    intro k h hk a79 a80 a81 a82 a84 b79 b80 b81 b82 b84 e2 fr
    have : k = 14 := by omega
    subst this
    refine r_iload_1 dX8_stands_108 ?_
    refine r_bipush (v := nI 14) dX8_stands_109 (by decide) ?_
    refine r_icmpN_ge 195 dX8_stands_111 (by decide) (by omega) (by omega) (fun c_111 => ?_) (fun c_111 => by omega)
    refine RT.sub (lv' := [some (.ref 74), none]) (by simp [lsub]) ?_
    exact K h a79 a80 a81 a82 a84 e2 fr
  | succ m ih =>
    intro k h hk a79 a80 a81 a82 a84 b79 b80 b81 b82 b84 e2 fr
    refine r_iload_1 dX8_stands_108 ?_
    refine r_bipush (v := nI 14) dX8_stands_109 (by decide) ?_
    refine r_icmpN_ge 195 dX8_stands_111 (by decide) (by omega) (by omega) (fun c_111 => by omega) (fun c_111 => ?_)
    refine r_aload_0 dX8_stands_114 ?_
    refine r_getR (a := 79) dX8_stands_115 fl_X8_28 rfl rfl ?_
    refine r_iload_1 dX8_stands_118 ?_
    refine r_aload_0 dX8_stands_119 ?_
    refine r_getR (a := 79) dX8_stands_120 fl_X8_28 rfl rfl ?_
    refine r_bipush (v := nI 14) dX8_stands_123 (by decide) ?_
    refine r_iload_1 dX8_stands_125 ?_
    refine r_iadd dX8_stands_126 ?_
    rw [nI_ad9]
    refine r_ialdN dX8_stands_127 rfl (by omega) ?_
    refine r_iastN dX8_stands_128 rfl (by omega) ?_
    refine r_aload_0 dX8_stands_129 ?_
    refine r_getR (a := 80) dX8_stands_130 fl_X8_31 rfl rfl ?_
    refine r_iload_1 dX8_stands_133 ?_
    refine r_aload_0 dX8_stands_134 ?_
    refine r_getR (a := 80) dX8_stands_135 fl_X8_31 rfl rfl ?_
    refine r_bipush (v := nI 14) dX8_stands_138 (by decide) ?_
    refine r_iload_1 dX8_stands_140 ?_
    refine r_iadd dX8_stands_141 ?_
    rw [nI_ad9]
    refine r_ialdN dX8_stands_142 rfl (by omega) ?_
    refine r_iastN dX8_stands_143 rfl (by omega) ?_
    refine r_aload_0 dX8_stands_144 ?_
    refine r_getR (a := 81) dX8_stands_145 fl_X8_34 rfl rfl ?_
    refine r_iload_1 dX8_stands_148 ?_
    refine r_aload_0 dX8_stands_149 ?_
    refine r_getR (a := 81) dX8_stands_150 fl_X8_34 rfl rfl ?_
    refine r_bipush (v := nI 14) dX8_stands_153 (by decide) ?_
    refine r_iload_1 dX8_stands_155 ?_
    refine r_iadd dX8_stands_156 ?_
    rw [nI_ad9]
    refine r_ialdN dX8_stands_157 rfl (by omega) ?_
    refine r_iastN dX8_stands_158 rfl (by omega) ?_
    refine r_aload_0 dX8_stands_159 ?_
    refine r_getR (a := 82) dX8_stands_160 fl_X8_37 rfl rfl ?_
    refine r_iload_1 dX8_stands_163 ?_
    refine r_aload_0 dX8_stands_164 ?_
    refine r_getR (a := 82) dX8_stands_165 fl_X8_37 rfl rfl ?_
    refine r_bipush (v := nI 14) dX8_stands_168 (by decide) ?_
    refine r_iload_1 dX8_stands_170 ?_
    refine r_iadd dX8_stands_171 ?_
    rw [nI_ad9]
    refine r_ialdN dX8_stands_172 rfl (by omega) ?_
    refine r_iastN dX8_stands_173 rfl (by omega) ?_
    refine r_aload_0 dX8_stands_174 ?_
    refine r_getR (a := 84) dX8_stands_175 fl_X8_43 rfl rfl ?_
    refine r_iload_1 dX8_stands_178 ?_
    refine r_aload_0 dX8_stands_179 ?_
    refine r_getR (a := 84) dX8_stands_180 fl_X8_43 rfl rfl ?_
    refine r_bipush (v := nI 14) dX8_stands_183 (by decide) ?_
    refine r_iload_1 dX8_stands_185 ?_
    refine r_iadd dX8_stands_186 ?_
    rw [nI_ad9]
    refine r_ialdN dX8_stands_187 rfl (by omega) ?_
    refine r_iastN dX8_stands_188 rfl (by omega) ?_
    refine r_iincN_1 dX8_stands_189 ?_
    refine r_goto 108 dX8_stands_192 (by decide) ?_
    refine ih (k + 1) _ (by omega) (fun i hi => ?_) (fun i hi => ?_) (fun i hi => ?_) (fun i hi => ?_) (fun i hi => ?_) (fun i hi => ?_) (fun i hi => ?_) (fun i hi => ?_) (fun i hi => ?_) (fun i hi => ?_) e2 (((((fr.pI (by decide) (Or.inl rfl)).pI (by decide) (Or.inr (Or.inl rfl))).pI (by decide) (Or.inr (Or.inr (Or.inl rfl)))).pI (by decide) (Or.inr (Or.inr (Or.inr (Or.inl rfl))))).pI (by decide) (Or.inr (Or.inr (Or.inr (Or.inr rfl)))))
    · rw [pI_ne 79 _ (Or.inl (by decide)), pI_ne 79 _ (Or.inl (by decide)), pI_ne 79 _ (Or.inl (by decide)), pI_ne 79 _ (Or.inl (by decide))]
      by_cases q : i = k
      · rw [q, pI_eq]; exact b79 _ (by omega)
      · rw [pI_ne 79 _ (Or.inr q)]; exact a79 i (by omega)
    · rw [pI_ne 80 _ (Or.inl (by decide)), pI_ne 80 _ (Or.inl (by decide)), pI_ne 80 _ (Or.inl (by decide))]
      by_cases q : i = k
      · rw [q, pI_eq, pI_ne 80 _ (Or.inl (by decide))]; exact b80 _ (by omega)
      · rw [pI_ne 80 _ (Or.inr q), pI_ne 80 _ (Or.inl (by decide))]; exact a80 i (by omega)
    · rw [pI_ne 81 _ (Or.inl (by decide)), pI_ne 81 _ (Or.inl (by decide))]
      by_cases q : i = k
      · rw [q, pI_eq, pI_ne 81 _ (Or.inl (by decide)), pI_ne 81 _ (Or.inl (by decide))]; exact b81 _ (by omega)
      · rw [pI_ne 81 _ (Or.inr q), pI_ne 81 _ (Or.inl (by decide)), pI_ne 81 _ (Or.inl (by decide))]; exact a81 i (by omega)
    · rw [pI_ne 82 _ (Or.inl (by decide))]
      by_cases q : i = k
      · rw [q, pI_eq, pI_ne 82 _ (Or.inl (by decide)), pI_ne 82 _ (Or.inl (by decide)), pI_ne 82 _ (Or.inl (by decide))]; exact b82 _ (by omega)
      · rw [pI_ne 82 _ (Or.inr q), pI_ne 82 _ (Or.inl (by decide)), pI_ne 82 _ (Or.inl (by decide)), pI_ne 82 _ (Or.inl (by decide))]; exact a82 i (by omega)
    · by_cases q : i = k
      · rw [q, pI_eq, pI_ne 84 _ (Or.inl (by decide)), pI_ne 84 _ (Or.inl (by decide)), pI_ne 84 _ (Or.inl (by decide)), pI_ne 84 _ (Or.inl (by decide))]; exact b84 _ (by omega)
      · rw [pI_ne 84 _ (Or.inr q), pI_ne 84 _ (Or.inl (by decide)), pI_ne 84 _ (Or.inl (by decide)), pI_ne 84 _ (Or.inl (by decide)), pI_ne 84 _ (Or.inl (by decide))]; exact a84 i (by omega)
    · rw [pI_ne 79 _ (Or.inl (by decide)), pI_ne 79 _ (Or.inl (by decide)), pI_ne 79 _ (Or.inl (by decide)), pI_ne 79 _ (Or.inl (by decide)), pI_ne 79 _ (Or.inr (by omega))]; exact b79 i (by omega)
    · rw [pI_ne 80 _ (Or.inl (by decide)), pI_ne 80 _ (Or.inl (by decide)), pI_ne 80 _ (Or.inl (by decide)), pI_ne 80 _ (Or.inr (by omega)), pI_ne 80 _ (Or.inl (by decide))]; exact b80 i (by omega)
    · rw [pI_ne 81 _ (Or.inl (by decide)), pI_ne 81 _ (Or.inl (by decide)), pI_ne 81 _ (Or.inr (by omega)), pI_ne 81 _ (Or.inl (by decide)), pI_ne 81 _ (Or.inl (by decide))]; exact b81 i (by omega)
    · rw [pI_ne 82 _ (Or.inl (by decide)), pI_ne 82 _ (Or.inr (by omega)), pI_ne 82 _ (Or.inl (by decide)), pI_ne 82 _ (Or.inl (by decide)), pI_ne 82 _ (Or.inl (by decide))]; exact b82 i (by omega)
    · rw [pI_ne 84 _ (Or.inr (by omega)), pI_ne 84 _ (Or.inl (by decide)), pI_ne 84 _ (Or.inl (by decide)), pI_ne 84 _ (Or.inl (by decide)), pI_ne 84 _ (Or.inl (by decide))]; exact b84 i (by omega)
set_option maxRecDepth 100000 in
set_option maxHeartbeats 4000000 in
theorem st_84 (h0 : PH) {Q : Option Value → PH → Prop} (K : ∀ h', (∀ i, i < 84 → h'.1 83 i = h0.1 83 (84 + i)) → h'.2 = h0.2 → FM (fun y => y = 83) noF h0 h' → RT mX8_stands 1 224 [some (.ref 74), none] [] h' Q) : ∀ (m k : Nat) (h : PH), k + m = 84 → (∀ i, i < k → h.1 83 i = h0.1 83 (84 + i)) → (∀ i, k ≤ i → h.1 83 i = h0.1 83 i) → h.2 = h0.2 → FM (fun y => y = 83) noF h0 h → RT mX8_stands 1 197 [some (.ref 74), some (.int (nI k))] [] h Q := by
  intro m
  induction m with
  | zero =>
    intro k h hk a83 b83 e2 fr
    have : k = 84 := by omega
    subst this
    refine r_iload_1 dX8_stands_197 ?_
    refine r_bipush (v := nI 84) dX8_stands_198 (by decide) ?_
    refine r_icmpN_ge 224 dX8_stands_200 (by decide) (by omega) (by omega) (fun c_200 => ?_) (fun c_200 => by omega)
    refine RT.sub (lv' := [some (.ref 74), none]) (by simp [lsub]) ?_
    exact K h a83 e2 fr
  | succ m ih =>
    intro k h hk a83 b83 e2 fr
    refine r_iload_1 dX8_stands_197 ?_
    refine r_bipush (v := nI 84) dX8_stands_198 (by decide) ?_
    refine r_icmpN_ge 224 dX8_stands_200 (by decide) (by omega) (by omega) (fun c_200 => by omega) (fun c_200 => ?_)
    refine r_aload_0 dX8_stands_203 ?_
    refine r_getR (a := 83) dX8_stands_204 fl_X8_40 rfl rfl ?_
    refine r_iload_1 dX8_stands_207 ?_
    refine r_aload_0 dX8_stands_208 ?_
    refine r_getR (a := 83) dX8_stands_209 fl_X8_40 rfl rfl ?_
    refine r_bipush (v := nI 84) dX8_stands_212 (by decide) ?_
    refine r_iload_1 dX8_stands_214 ?_
    refine r_iadd dX8_stands_215 ?_
    rw [nI_ad9]
    refine r_ialdN dX8_stands_216 rfl (by omega) ?_
    refine r_iastN dX8_stands_217 rfl (by omega) ?_
    refine r_iincN_1 dX8_stands_218 ?_
    refine r_goto 197 dX8_stands_221 (by decide) ?_
    refine ih (k + 1) _ (by omega) (fun i hi => ?_) (fun i hi => ?_) e2 (fr.pI (by decide) rfl)
    · by_cases q : i = k
      · rw [q, pI_eq]; exact b83 _ (by omega)
      · rw [pI_ne 83 _ (Or.inr q)]; exact a83 i (by omega)
    · rw [pI_ne 83 _ (Or.inr (by omega))]; exact b83 i (by omega)
def stS : Nat → Prop := fun y => (76 ≤ y ∧ y ≤ 84) ∨ y = 94
def stF : Nat → Prop := fun k => k = 6 ∨ k = 7 ∨ k = 17 ∨ k = 51
theorem fm_st {S : Nat → Prop} (hS : ∀ y, S y → stS y) {h h' : PH} (f : FM S noF h h') : FM stS stF h h' := f.wk hS (fun k q => q.elim)
set_option maxRecDepth 100000 in
set_option maxHeartbeats 4000000 in
theorem q_stands {h : PH} {n : Nat} {B : Nat → Nat} {k : TK} {t : NT} {nm : NMS} (c : RMd h n B k t nm) (ti : TI t) (no : nmOK t nm) : Con mX8_stands 1 [.ref 74] h (fun a h' => a = none ∧ (RawM h' t ∧ NamM h' 0 t nm ∧ (∀ i, i < 9 → h'.1 94 i = 0) ∧ h'.1 74 51 = 0 ∧ FM stS stF h h')) := by
  obtain ⟨-, -, r1, r2, r3, r4⟩ := c
  have hJ := ti.1
  have hE := ti.2.1
  have g0 : FM stS stF h (pI (pI (pI (pI h 74 6 (nI (NT.J t))) 74 7 (nI (NT.E t))) 74 17 0) 74 51 0) := (((FM.rf.pF (Or.inl rfl)).pF (Or.inr (Or.inl rfl))).pF (Or.inr (Or.inr (Or.inl rfl)))).pF (Or.inr (Or.inr (Or.inr rfl)))
  have y6 : (pI (pI (pI (pI h 74 6 (nI (NT.J t))) 74 7 (nI (NT.E t))) 74 17 0) 74 51 0).1 74 6 = nI (NT.J t) := by simp (decide := true) only [pI_1, pI_2, pL_1, pL_2, pA_1, pA_2, pB_1, pB_2, Nat.add_left_cancel_iff, Nat.add_right_cancel_iff, Nat.add_eq_left, Nat.left_eq_add, true_and, false_and, and_false, and_true, and_self, if_true, if_false, ite_true, ite_false]
  have y7 : (pI (pI (pI (pI h 74 6 (nI (NT.J t))) 74 7 (nI (NT.E t))) 74 17 0) 74 51 0).1 74 7 = nI (NT.E t) := by simp (decide := true) only [pI_1, pI_2, pL_1, pL_2, pA_1, pA_2, pB_1, pB_2, Nat.add_left_cancel_iff, Nat.add_right_cancel_iff, Nat.add_eq_left, Nat.left_eq_add, true_and, false_and, and_false, and_true, and_self, if_true, if_false, ite_true, ite_false]
  have y17 : (pI (pI (pI (pI h 74 6 (nI (NT.J t))) 74 7 (nI (NT.E t))) 74 17 0) 74 51 0).1 74 17 = 0 := by simp (decide := true) only [pI_1, pI_2, pL_1, pL_2, pA_1, pA_2, pB_1, pB_2, Nat.add_left_cancel_iff, Nat.add_right_cancel_iff, Nat.add_eq_left, Nat.left_eq_add, true_and, false_and, and_false, and_true, and_self, if_true, if_false, ite_true, ite_false]
  have y51 : (pI (pI (pI (pI h 74 6 (nI (NT.J t))) 74 7 (nI (NT.E t))) 74 17 0) 74 51 0).1 74 51 = 0 := pI_eq
  have ya : ∀ y, y ≠ 74 → (pI (pI (pI (pI h 74 6 (nI (NT.J t))) 74 7 (nI (NT.E t))) 74 17 0) 74 51 0).1 y = h.1 y := fun y hy => funext fun j => by rw [pI_ne y j (Or.inl hy), pI_ne y j (Or.inl hy), pI_ne y j (Or.inl hy), pI_ne y j (Or.inl hy)]
  refine Con.mk (by decide) ?_
  show RT _ _ 0 [some (.ref 74), none] [] _ _
  refine r_aload_0 dX8_stands_0 ?_
  refine r_aload_0 dX8_stands_1 ?_
  refine r_getI dX8_stands_2 fl_X8_174 rfl ?_
  rw [r1]
  refine r_putI dX8_stands_5 fl_X8_229 rfl rfl rfl ?_
  refine r_aload_0 dX8_stands_8 ?_
  refine r_aload_0 dX8_stands_9 ?_
  refine r_getI dX8_stands_10 fl_X8_205 rfl ?_
  rw [show (pI h 74 6 (nI (NT.J t))).1 74 26 = nI (NT.E t) from (pI_ne 74 26 (Or.inr (by decide))).trans r2]
  refine r_putI dX8_stands_13 fl_X8_232 rfl rfl rfl ?_
  refine r_aload_0 dX8_stands_16 ?_
  refine r_iconst (v := 0) dX8_stands_17 (by decide) ?_
  refine r_putI dX8_stands_18 fl_X8_235 rfl rfl rfl ?_
  refine r_aload_0 dX8_stands_21 ?_
  refine r_iconst (v := 0) dX8_stands_22 (by decide) ?_
  refine r_putI dX8_stands_23 fl_X8_238 rfl rfl rfl ?_
  refine r_iconst (v := nI 0) dX8_stands_26 (by decide) ?_
  refine r_istore_1 dX8_stands_27 ?_
  generalize (pI (pI (pI (pI h 74 6 (nI (NT.J t))) 74 7 (nI (NT.E t))) 74 17 0) 74 51 0) = H at g0 y6 y7 y17 y51 ya
  refine st_9 H (fun h1 a1 a2 a3 e1 f1 => ?_) 9 0 H (by omega) (fun i hi => by omega) (fun i hi => by omega) (fun i hi => rfl) (fun i hi => rfl) (fun i hi => by omega) rfl FM.rf
  refine r_iconst (v := nI 0) dX8_stands_77 (by decide) ?_
  refine r_istore_1 dX8_stands_78 ?_
  refine st_54 h1 (fun h2 b1 e2 f2 => ?_) 54 0 h1 (by omega) (fun i hi => by omega) (fun i hi => rfl) rfl FM.rf
  refine r_iconst (v := nI 0) dX8_stands_106 (by decide) ?_
  refine r_istore_1 dX8_stands_107 ?_
  refine st_14 h2 (fun h3 c1 c2 c3 c4 c5 e3 f3 => ?_) 14 0 h2 (by omega) (fun i hi => by omega) (fun i hi => by omega) (fun i hi => by omega) (fun i hi => by omega) (fun i hi => by omega) (fun i hi => rfl) (fun i hi => rfl) (fun i hi => rfl) (fun i hi => rfl) (fun i hi => rfl) rfl FM.rf
  refine r_iconst (v := nI 0) dX8_stands_195 (by decide) ?_
  refine r_istore_1 dX8_stands_196 ?_
  refine st_84 h3 (fun h4 d1 e4 f4 => ?_) 84 0 h3 (by omega) (fun i hi => by omega) (fun i hi => rfl) rfl FM.rf
  refine r_vret dX8_stands_224 rfl ?_
  have z : ∀ k, h4.1 74 k = H.1 74 k := fun k => (f4.1 k id).trans ((f3.1 k id).trans ((f2.1 k id).trans (f1.1 k id)))
  have w76 : ∀ i, i < 9 → h4.1 76 i = h.1 76 (9 + i) ∧ h4.1 77 i = h.1 77 (9 + i) ∧ h4.1 94 i = 0 := fun i hi => by
    rw [(f4.2.1 76 (by decide) (by decide)).1, (f3.2.1 76 (by decide) (by decide)).1, (f2.2.1 76 (by decide) (by decide)).1, a1 i hi, ya 76 (by decide), (f4.2.1 77 (by decide) (by decide)).1, (f3.2.1 77 (by decide) (by decide)).1, (f2.2.1 77 (by decide) (by decide)).1, a2 i hi, ya 77 (by decide), (f4.2.1 94 (by decide) (by decide)).1, (f3.2.1 94 (by decide) (by decide)).1, (f2.2.1 94 (by decide) (by decide)).1, a3 i hi]
    exact ⟨rfl, rfl, rfl⟩
  have w78 : ∀ i, i < 54 → h4.1 78 i = h.1 78 (54 + i) := fun i hi => by
    rw [(f4.2.1 78 (by decide) (by decide)).1, (f3.2.1 78 (by decide) (by decide)).1, b1 i hi, (f1.2.1 78 (by decide) (by decide)).1, ya 78 (by decide)]
  have w79 : ∀ i, i < 14 → h4.1 79 i = h.1 79 (14 + i) ∧ h4.1 80 i = h.1 80 (14 + i) ∧ h4.1 81 i = h.1 81 (14 + i) ∧ h4.1 82 i = h.1 82 (14 + i) ∧ h4.1 84 i = h.1 84 (14 + i) := fun i hi => by
    rw [(f4.2.1 79 (by decide) (by decide)).1, c1 i hi, (f2.2.1 79 (by decide) (by decide)).1, (f1.2.1 79 (by decide) (by decide)).1, ya 79 (by decide), (f4.2.1 80 (by decide) (by decide)).1, c2 i hi, (f2.2.1 80 (by decide) (by decide)).1, (f1.2.1 80 (by decide) (by decide)).1, ya 80 (by decide), (f4.2.1 81 (by decide) (by decide)).1, c3 i hi, (f2.2.1 81 (by decide) (by decide)).1, (f1.2.1 81 (by decide) (by decide)).1, ya 81 (by decide), (f4.2.1 82 (by decide) (by decide)).1, c4 i hi, (f2.2.1 82 (by decide) (by decide)).1, (f1.2.1 82 (by decide) (by decide)).1, ya 82 (by decide), (f4.2.1 84 (by decide) (by decide)).1, c5 i hi, (f2.2.1 84 (by decide) (by decide)).1, (f1.2.1 84 (by decide) (by decide)).1, ya 84 (by decide)]
    exact ⟨rfl, rfl, rfl, rfl, rfl⟩
  have w83 : ∀ i, i < 84 → h4.1 83 i = h.1 83 (84 + i) := fun i hi => by
    rw [d1 i hi, (f3.2.1 83 (by decide) (by decide)).1, (f2.2.1 83 (by decide) (by decide)).1, (f1.2.1 83 (by decide) (by decide)).1, ya 83 (by decide)]
  refine ⟨rfl, ⟨(z 6).trans y6, (z 7).trans y7, ((z 17).trans y17).trans ti.2.2.2.2.2.2.symm, fun j hj => ?_, fun e he => ?_⟩, fun j hj x hx => ?_, fun i hi => (w76 i hi).2.2, (z 51).trans y51, (((g0.tr (fm_st (fun y q => by unfold stS; omega) f1)).tr (fm_st (fun y q => by unfold stS; omega) f2)).tr (fm_st (fun y q => by unfold stS; omega) f3)).tr (fm_st (fun y q => by unfold stS; omega) f4)⟩
  · rw [(w76 j (by omega)).1, (w76 j (by omega)).2.1]; exact ⟨(r3 j hj).1, (r3 j hj).2.1⟩
  · obtain ⟨u1, u2, u3, u4, u5⟩ := w79 e (by omega)
    obtain ⟨x1, x2, x3, x4, x5, x6⟩ := r4 e he
    have hl := (ti.2.2.1 e he).2.2.2.2.2.1
    rw [u1, u2, u3, u4, u5]
    refine ⟨x1, x2, x3, x4, x5, fun k hk => ?_⟩
    rw [w83 _ (by omega), show 84 + (6 * e + k) = 6 * (14 + e) + k by omega]; exact x6 k hk
  · rw [Nat.zero_add, w78 _ (by omega), show 54 + (6 * j + x) = 6 * (9 + j) + x by omega, (r3 j hj).2.2 x hx]
    by_cases q : x < (nm j).length
    · rw [if_pos q]
    · rw [if_neg q, getD_out (by omega)]; rfl

