/-! ===== the reference: remembers ===== -/
theorem nI_mu9 {a b : Nat} : nI a * nI b = nI (a * b) := (Int32.ofNat_mul a b).symm
def rmS : Nat → Prop := fun y => 96 ≤ y ∧ y ≤ 98
def rmF : Nat → Prop := fun k => k = 51
theorem fm_rm {A : Nat} (hA : rmS A) {h h' : PH} (f : FM (fun y => y = A) noF h h') : FM rmS rmF h h' := f.wk (fun y q => by rw [show y = A from q]; exact hA) (fun k q => q.elim)
set_option maxRecDepth 100000 in
set_option maxHeartbeats 4000000 in
theorem rm_98 (h0 : PH) (h51 : h0.1 74 51 = nI 11) {Q : Option Value → PH → Prop} (K : ∀ h', (∀ i, i < 11 → h'.1 98 i = h0.1 98 (i + 1)) → FM (fun y => y = 98) noF h0 h' → RT mX8_remembers 1 49 [some (.ref 74), none] [] h' Q) : ∀ (m k : Nat) (h : PH), k + m = 11 → (∀ i, i < k → h.1 98 i = h0.1 98 (i + 1)) → (∀ i, k ≤ i → h.1 98 i = h0.1 98 i) → FM (fun y => y = 98) noF h0 h → RT mX8_remembers 1 21 [some (.ref 74), some (.int (nI k))] [] h Q := by
  intro m
  induction m with
  | zero =>
    intro k h hk h1 h2 fr
    have : k = 11 := by omega
    subst this
    have e : h.1 74 51 = nI 11 := (fr.1 51 id).trans h51
    refine r_iload_1 dX8_remembers_21 ?_
    refine r_aload_0 dX8_remembers_22 ?_
    refine r_getI dX8_remembers_23 fl_X8_238 rfl ?_
    rw [e]
    refine r_icmpN_ge 49 dX8_remembers_26 (by decide) (by omega) (by omega) (fun c_26 => ?_) (fun c_26 => by omega)
    refine RT.sub (lv' := [some (.ref 74), none]) (by simp [lsub]) ?_
    exact K h h1 fr
  | succ m ih =>
    intro k h hk h1 h2 fr
    have e : h.1 74 51 = nI 11 := (fr.1 51 id).trans h51
    refine r_iload_1 dX8_remembers_21 ?_
    refine r_aload_0 dX8_remembers_22 ?_
    refine r_getI dX8_remembers_23 fl_X8_238 rfl ?_
    rw [e]
    refine r_icmpN_ge 49 dX8_remembers_26 (by decide) (by omega) (by omega) (fun c_26 => by omega) (fun c_26 => ?_)
    refine r_aload_0 dX8_remembers_29 ?_
    refine r_getR (a := 98) dX8_remembers_30 fl_X8_93 rfl rfl ?_
    refine r_iload_1 dX8_remembers_33 ?_
    refine r_aload_0 dX8_remembers_34 ?_
    refine r_getR (a := 98) dX8_remembers_35 fl_X8_93 rfl rfl ?_
    refine r_iload_1 dX8_remembers_38 ?_
    refine r_iconst (v := nI 1) dX8_remembers_39 (by decide) ?_
    refine r_iadd dX8_remembers_40 ?_
    rw [nI_ad9]
    refine r_ialdN dX8_remembers_41 rfl (by omega) ?_
    refine r_iastN dX8_remembers_42 rfl (by omega) ?_
    refine r_iincN_1 dX8_remembers_43 ?_
    refine r_goto 21 dX8_remembers_46 (by decide) ?_
    refine ih (k + 1) _ (by omega) (fun i hi => ?_) (fun i hi => ?_) (fr.pI (by decide) rfl)
    · by_cases q : i = k
      · rw [q, pI_eq]; exact h2 _ (by omega)
      · rw [pI_ne 98 i (Or.inr q)]; exact h1 i (by omega)
    · rw [pI_ne 98 i (Or.inr (by omega))]; exact h2 i (by omega)
set_option maxRecDepth 100000 in
set_option maxHeartbeats 4000000 in
theorem rm_96 (h0 : PH) (h51 : h0.1 74 51 = nI 11) {Q : Option Value → PH → Prop} (K : ∀ h', (∀ i, i < 99 → h'.1 96 i = h0.1 96 (i + 9)) → FM (fun y => y = 96) noF h0 h' → RT mX8_remembers 1 83 [some (.ref 74), none] [] h' Q) : ∀ (m k : Nat) (h : PH), k + m = 99 → (∀ i, i < k → h.1 96 i = h0.1 96 (i + 9)) → (∀ i, k ≤ i → h.1 96 i = h0.1 96 i) → FM (fun y => y = 96) noF h0 h → RT mX8_remembers 1 51 [some (.ref 74), some (.int (nI k))] [] h Q := by
  intro m
  induction m with
  | zero =>
    intro k h hk h1 h2 fr
    have : k = 99 := by omega
    subst this
    have e : h.1 74 51 = nI 11 := (fr.1 51 id).trans h51
    refine r_iload_1 dX8_remembers_51 ?_
    refine r_aload_0 dX8_remembers_52 ?_
    refine r_getI dX8_remembers_53 fl_X8_238 rfl ?_
    rw [e]
    refine r_bipush (v := nI 9) dX8_remembers_56 (by decide) ?_
    refine r_imul dX8_remembers_58 ?_
    rw [nI_mu9]
    refine r_icmpN_ge 83 dX8_remembers_59 (by decide) (by omega) (by omega) (fun c_59 => ?_) (fun c_59 => by omega)
    refine RT.sub (lv' := [some (.ref 74), none]) (by simp [lsub]) ?_
    exact K h h1 fr
  | succ m ih =>
    intro k h hk h1 h2 fr
    have e : h.1 74 51 = nI 11 := (fr.1 51 id).trans h51
    refine r_iload_1 dX8_remembers_51 ?_
    refine r_aload_0 dX8_remembers_52 ?_
    refine r_getI dX8_remembers_53 fl_X8_238 rfl ?_
    rw [e]
    refine r_bipush (v := nI 9) dX8_remembers_56 (by decide) ?_
    refine r_imul dX8_remembers_58 ?_
    rw [nI_mu9]
    refine r_icmpN_ge 83 dX8_remembers_59 (by decide) (by omega) (by omega) (fun c_59 => by omega) (fun c_59 => ?_)
    refine r_aload_0 dX8_remembers_62 ?_
    refine r_getR (a := 96) dX8_remembers_63 fl_X8_87 rfl rfl ?_
    refine r_iload_1 dX8_remembers_66 ?_
    refine r_aload_0 dX8_remembers_67 ?_
    refine r_getR (a := 96) dX8_remembers_68 fl_X8_87 rfl rfl ?_
    refine r_iload_1 dX8_remembers_71 ?_
    refine r_bipush (v := nI 9) dX8_remembers_72 (by decide) ?_
    refine r_iadd dX8_remembers_74 ?_
    rw [nI_ad9]
    refine r_ialdN dX8_remembers_75 rfl (by omega) ?_
    refine r_iastN dX8_remembers_76 rfl (by omega) ?_
    refine r_iincN_1 dX8_remembers_77 ?_
    refine r_goto 51 dX8_remembers_80 (by decide) ?_
    refine ih (k + 1) _ (by omega) (fun i hi => ?_) (fun i hi => ?_) (fr.pI (by decide) rfl)
    · by_cases q : i = k
      · rw [q, pI_eq]; exact h2 _ (by omega)
      · rw [pI_ne 96 i (Or.inr q)]; exact h1 i (by omega)
    · rw [pI_ne 96 i (Or.inr (by omega))]; exact h2 i (by omega)
set_option maxRecDepth 100000 in
set_option maxHeartbeats 4000000 in
theorem rm_97 (h0 : PH) (h51 : h0.1 74 51 = nI 11) {Q : Option Value → PH → Prop} (K : ∀ h', (∀ i, i < 154 → h'.1 97 i = h0.1 97 (i + 14)) → FM (fun y => y = 97) noF h0 h' → RT mX8_remembers 1 117 [some (.ref 74), none] [] h' Q) : ∀ (m k : Nat) (h : PH), k + m = 154 → (∀ i, i < k → h.1 97 i = h0.1 97 (i + 14)) → (∀ i, k ≤ i → h.1 97 i = h0.1 97 i) → FM (fun y => y = 97) noF h0 h → RT mX8_remembers 1 85 [some (.ref 74), some (.int (nI k))] [] h Q := by
  intro m
  induction m with
  | zero =>
    intro k h hk h1 h2 fr
    have : k = 154 := by omega
    subst this
    have e : h.1 74 51 = nI 11 := (fr.1 51 id).trans h51
    refine r_iload_1 dX8_remembers_85 ?_
    refine r_aload_0 dX8_remembers_86 ?_
    refine r_getI dX8_remembers_87 fl_X8_238 rfl ?_
    rw [e]
    refine r_bipush (v := nI 14) dX8_remembers_90 (by decide) ?_
    refine r_imul dX8_remembers_92 ?_
    rw [nI_mu9]
    refine r_icmpN_ge 117 dX8_remembers_93 (by decide) (by omega) (by omega) (fun c_93 => ?_) (fun c_93 => by omega)
    refine RT.sub (lv' := [some (.ref 74), none]) (by simp [lsub]) ?_
    exact K h h1 fr
  | succ m ih =>
    intro k h hk h1 h2 fr
    have e : h.1 74 51 = nI 11 := (fr.1 51 id).trans h51
    refine r_iload_1 dX8_remembers_85 ?_
    refine r_aload_0 dX8_remembers_86 ?_
    refine r_getI dX8_remembers_87 fl_X8_238 rfl ?_
    rw [e]
    refine r_bipush (v := nI 14) dX8_remembers_90 (by decide) ?_
    refine r_imul dX8_remembers_92 ?_
    rw [nI_mu9]
    refine r_icmpN_ge 117 dX8_remembers_93 (by decide) (by omega) (by omega) (fun c_93 => by omega) (fun c_93 => ?_)
    refine r_aload_0 dX8_remembers_96 ?_
    refine r_getR (a := 97) dX8_remembers_97 fl_X8_90 rfl rfl ?_
    refine r_iload_1 dX8_remembers_100 ?_
    refine r_aload_0 dX8_remembers_101 ?_
    refine r_getR (a := 97) dX8_remembers_102 fl_X8_90 rfl rfl ?_
    refine r_iload_1 dX8_remembers_105 ?_
    refine r_bipush (v := nI 14) dX8_remembers_106 (by decide) ?_
    refine r_iadd dX8_remembers_108 ?_
    rw [nI_ad9]
    refine r_ialdN dX8_remembers_109 rfl (by omega) ?_
    refine r_iastN dX8_remembers_110 rfl (by omega) ?_
    refine r_iincN_1 dX8_remembers_111 ?_
    refine r_goto 85 dX8_remembers_114 (by decide) ?_
    refine ih (k + 1) _ (by omega) (fun i hi => ?_) (fun i hi => ?_) (fr.pI (by decide) rfl)
    · by_cases q : i = k
      · rw [q, pI_eq]; exact h2 _ (by omega)
      · rw [pI_ne 97 i (Or.inr q)]; exact h1 i (by omega)
    · rw [pI_ne 97 i (Or.inr (by omega))]; exact h2 i (by omega)
set_option maxRecDepth 100000 in
set_option maxHeartbeats 4000000 in
theorem rf_96 (h0 : PH) {n : Nat} (hn : n < 12) (h51 : h0.1 74 51 = nI n) {Q : Option Value → PH → Prop} (K : ∀ h', (∀ i, i < 9 → h'.1 96 (9 * n + i) = h0.1 76 i) → (∀ i, i < 9 * n → h'.1 96 i = h0.1 96 i) → FM (fun y => y = 96) noF h0 h' → RT mX8_remembers 1 164 [some (.ref 74), none] [] h' Q) : ∀ (m k : Nat) (h : PH), k + m = 9 → (∀ i, i < k → h.1 96 (9 * n + i) = h0.1 76 i) → (∀ i, i < 9 * n → h.1 96 i = h0.1 96 i) → FM (fun y => y = 96) noF h0 h → RT mX8_remembers 1 132 [some (.ref 74), some (.int (nI k))] [] h Q := by
  intro m
  induction m with
  | zero =>
    intro k h hk h1 h2 fr
    have : k = 9 := by omega
    subst this
    refine r_iload_1 dX8_remembers_132 ?_
    refine r_bipush (v := nI 9) dX8_remembers_133 (by decide) ?_
    refine r_icmpN_ge 164 dX8_remembers_135 (by decide) (by omega) (by omega) (fun c_135 => ?_) (fun c_135 => by omega)
    refine RT.sub (lv' := [some (.ref 74), none]) (by simp [lsub]) ?_
    exact K h h1 h2 fr
  | succ m ih =>
    intro k h hk h1 h2 fr
    have e : h.1 74 51 = nI n := (fr.1 51 id).trans h51
    have eB : h.1 76 = h0.1 76 := (fr.2.1 76 (by decide) (by decide)).1
    refine r_iload_1 dX8_remembers_132 ?_
    refine r_bipush (v := nI 9) dX8_remembers_133 (by decide) ?_
    refine r_icmpN_ge 164 dX8_remembers_135 (by decide) (by omega) (by omega) (fun c_135 => by omega) (fun c_135 => ?_)
    refine r_aload_0 dX8_remembers_138 ?_
    refine r_getR (a := 96) dX8_remembers_139 fl_X8_87 rfl rfl ?_
    refine r_bipush (v := nI 9) dX8_remembers_142 (by decide) ?_
    refine r_aload_0 dX8_remembers_144 ?_
    refine r_getI dX8_remembers_145 fl_X8_238 rfl ?_
    rw [e]
    refine r_imul dX8_remembers_148 ?_
    rw [nI_mu9]
    refine r_iload_1 dX8_remembers_149 ?_
    refine r_iadd dX8_remembers_150 ?_
    rw [nI_ad9]
    refine r_aload_0 dX8_remembers_151 ?_
    refine r_getR (a := 76) dX8_remembers_152 fl_X8_19 rfl rfl ?_
    refine r_iload_1 dX8_remembers_155 ?_
    refine r_ialdN dX8_remembers_156 rfl (by omega) ?_
    refine r_iastN dX8_remembers_157 rfl (by omega) ?_
    refine r_iincN_1 dX8_remembers_158 ?_
    refine r_goto 132 dX8_remembers_161 (by decide) ?_
    refine ih (k + 1) _ (by omega) (fun i hi => ?_) (fun i hi => ?_) (fr.pI (by decide) rfl)
    · by_cases q : i = k
      · rw [q, pI_eq, eB]
      · rw [pI_ne 96 _ (Or.inr (by omega))]; exact h1 i (by omega)
    · rw [pI_ne 96 i (Or.inr (by omega))]; exact h2 i hi
set_option maxRecDepth 100000 in
set_option maxHeartbeats 4000000 in
theorem rf_97 (h0 : PH) {n : Nat} (hn : n < 12) (h51 : h0.1 74 51 = nI n) {Q : Option Value → PH → Prop} (K : ∀ h', (∀ i, i < 14 → h'.1 97 (14 * n + i) = h0.1 82 i) → (∀ i, i < 14 * n → h'.1 97 i = h0.1 97 i) → FM (fun y => y = 97) noF h0 h' → RT mX8_remembers 1 198 [some (.ref 74), none] [] h' Q) : ∀ (m k : Nat) (h : PH), k + m = 14 → (∀ i, i < k → h.1 97 (14 * n + i) = h0.1 82 i) → (∀ i, i < 14 * n → h.1 97 i = h0.1 97 i) → FM (fun y => y = 97) noF h0 h → RT mX8_remembers 1 166 [some (.ref 74), some (.int (nI k))] [] h Q := by
  intro m
  induction m with
  | zero =>
    intro k h hk h1 h2 fr
    have : k = 14 := by omega
    subst this
    refine r_iload_1 dX8_remembers_166 ?_
    refine r_bipush (v := nI 14) dX8_remembers_167 (by decide) ?_
    refine r_icmpN_ge 198 dX8_remembers_169 (by decide) (by omega) (by omega) (fun c_169 => ?_) (fun c_169 => by omega)
    refine RT.sub (lv' := [some (.ref 74), none]) (by simp [lsub]) ?_
    exact K h h1 h2 fr
  | succ m ih =>
    intro k h hk h1 h2 fr
    have e : h.1 74 51 = nI n := (fr.1 51 id).trans h51
    have eB : h.1 82 = h0.1 82 := (fr.2.1 82 (by decide) (by decide)).1
    refine r_iload_1 dX8_remembers_166 ?_
    refine r_bipush (v := nI 14) dX8_remembers_167 (by decide) ?_
    refine r_icmpN_ge 198 dX8_remembers_169 (by decide) (by omega) (by omega) (fun c_169 => by omega) (fun c_169 => ?_)
    refine r_aload_0 dX8_remembers_172 ?_
    refine r_getR (a := 97) dX8_remembers_173 fl_X8_90 rfl rfl ?_
    refine r_bipush (v := nI 14) dX8_remembers_176 (by decide) ?_
    refine r_aload_0 dX8_remembers_178 ?_
    refine r_getI dX8_remembers_179 fl_X8_238 rfl ?_
    rw [e]
    refine r_imul dX8_remembers_182 ?_
    rw [nI_mu9]
    refine r_iload_1 dX8_remembers_183 ?_
    refine r_iadd dX8_remembers_184 ?_
    rw [nI_ad9]
    refine r_aload_0 dX8_remembers_185 ?_
    refine r_getR (a := 82) dX8_remembers_186 fl_X8_37 rfl rfl ?_
    refine r_iload_1 dX8_remembers_189 ?_
    refine r_ialdN dX8_remembers_190 rfl (by omega) ?_
    refine r_iastN dX8_remembers_191 rfl (by omega) ?_
    refine r_iincN_1 dX8_remembers_192 ?_
    refine r_goto 166 dX8_remembers_195 (by decide) ?_
    refine ih (k + 1) _ (by omega) (fun i hi => ?_) (fun i hi => ?_) (fr.pI (by decide) rfl)
    · by_cases q : i = k
      · rw [q, pI_eq, eB]
      · rw [pI_ne 97 _ (Or.inr (by omega))]; exact h1 i (by omega)
    · rw [pI_ne 97 i (Or.inr (by omega))]; exact h2 i hi
set_option maxRecDepth 100000 in
set_option maxHeartbeats 4000000 in
theorem q_rem {h : PH} {t t' : NT} {ac : List NT} (acm : ActM h t ac) (l12 : ac.length ≤ 12) (r : RawM h t) (ok : okT t) (hJ : NT.J t' = NT.J t) (hE : NT.E t' = NT.E t) : Con mX8_remembers 1 [.ref 74] h (fun a h' => a = none ∧ (ActM h' t' (pushA ac t) ∧ FM rmS rmF h h')) := by
  obtain ⟨a1, a2⟩ := acm
  have hl := pushA_len l12 t
  have hJ9 := ok.2.1
  have hE14 := ok.2.2.1
  have tail : ∀ h1 n, n < 12 → n + shA ac = ac.length → h1.1 74 51 = nI n → (∀ k, k < n → h1.1 98 k = h.1 98 (k + shA ac) ∧ (∀ j, j < 9 → h1.1 96 (9 * k + j) = h.1 96 (9 * (k + shA ac) + j)) ∧ ∀ e, e < 14 → h1.1 97 (14 * k + e) = h.1 97 (14 * (k + shA ac) + e)) → FM rmS rmF h h1 → RT mX8_remembers 1 117 [some (.ref 74), none] [] h1 (fun a h' => a = none ∧ (ActM h' t' (pushA ac t) ∧ FM rmS rmF h h')) := fun h1 n h12 hn e0 ek fr => by
    have e17 : h1.1 74 17 = NT.cl t := (fr.1 17 (by unfold rmF; decide)).trans r.2.2.1
    have e76 : h1.1 76 = h.1 76 := (fr.2.1 76 (by decide) (by unfold rmS; omega)).1
    have e82 : h1.1 82 = h.1 82 := (fr.2.1 82 (by decide) (by unfold rmS; omega)).1
    have f2 : FM (fun y => y = 98) noF h1 (pI h1 98 n (NT.cl t)) := FM.rf.pI (by decide) rfl
    refine r_aload_0 dX8_remembers_117 ?_
    refine r_getR (a := 98) dX8_remembers_118 fl_X8_93 rfl rfl ?_
    refine r_aload_0 dX8_remembers_121 ?_
    refine r_getI dX8_remembers_122 fl_X8_238 rfl ?_
    rw [e0]
    refine r_aload_0 dX8_remembers_125 ?_
    refine r_getI dX8_remembers_126 fl_X8_235 rfl ?_
    rw [e17]
    refine r_iastN dX8_remembers_129 rfl (by omega) ?_
    refine r_iconst (v := nI 0) dX8_remembers_130 (by decide) ?_
    refine r_istore_1 dX8_remembers_131 ?_
    refine rf_96 (pI h1 98 n (NT.cl t)) (n := n) h12 ((f2.1 51 id).trans e0) (fun h3 d1 d2 f3 => ?_) 9 0 _ (by omega) (fun i hi => by omega) (fun i hi => rfl) FM.rf
    refine r_iconst (v := nI 0) dX8_remembers_164 (by decide) ?_
    refine r_istore_1 dX8_remembers_165 ?_
    refine rf_97 h3 (n := n) h12 ((f3.1 51 id).trans ((f2.1 51 id).trans e0)) (fun h4 g1 g2 f4 => ?_) 14 0 h3 (by omega) (fun i hi => by omega) (fun i hi => rfl) FM.rf
    have e5 : h4.1 74 51 = nI n := (f4.1 51 id).trans ((f3.1 51 id).trans ((f2.1 51 id).trans e0))
    refine r_aload_0 dX8_remembers_198 ?_
    refine r_dupr dX8_remembers_199 ?_
    refine r_getI dX8_remembers_200 fl_X8_238 rfl ?_
    rw [e5]
    refine r_iconst (v := nI 1) dX8_remembers_203 (by decide) ?_
    refine r_iadd dX8_remembers_204 ?_
    rw [nI_ad9]
    refine r_putI dX8_remembers_205 fl_X8_238 rfl rfl rfl ?_
    refine r_vret dX8_remembers_208 rfl ?_
    have ff : FM rmS rmF h (pI h4 74 51 (nI (n + 1))) := (((fr.tr (fm_rm (by unfold rmS; omega) f2)).tr (fm_rm (by unfold rmS; omega) f3)).tr (fm_rm (by unfold rmS; omega) f4)).pF rfl
    refine ⟨rfl, ⟨by rw [pI_eq, hl.1]; congr 1; omega, fun k hk => ?_⟩, ff⟩
    have v98 : (pI h4 74 51 (nI (n + 1))).1 98 k = (pI h1 98 n (NT.cl t)).1 98 k := by rw [pI_ne 98 k (Or.inl (by decide)), (f4.2.1 98 (by decide) (by decide)).1, (f3.2.1 98 (by decide) (by decide)).1]
    have v96 : ∀ i, (pI h4 74 51 (nI (n + 1))).1 96 i = h3.1 96 i := fun i => by rw [pI_ne 96 i (Or.inl (by decide)), (f4.2.1 96 (by decide) (by decide)).1]
    have v97 : ∀ i, (pI h4 74 51 (nI (n + 1))).1 97 i = h4.1 97 i := fun i => pI_ne 97 i (Or.inl (by decide))
    have b96 : ∀ i, (pI h1 98 n (NT.cl t)).1 96 i = h1.1 96 i := fun i => pI_ne 96 i (Or.inl (by decide))
    have b97 : ∀ i, h3.1 97 i = h1.1 97 i := fun i => by rw [(f3.2.1 97 (by decide) (by decide)).1]; exact pI_ne 97 i (Or.inl (by decide))
    by_cases q : k = n
    · subst q
      rw [acAt_push l12 (by omega), hn, acAt_len]
      refine ⟨by rw [v98]; exact pI_eq, fun j hj => ?_, fun e he => ?_⟩
      · rw [v96, d1 j (by omega), (f2.2.1 76 (by decide) (by decide)).1, e76]; exact (r.2.2.2.1 j (by omega)).1
      · rw [v97, g1 e (by omega), (f3.2.1 82 (by decide) (by decide)).1, (f2.2.1 82 (by decide) (by decide)).1, e82]; exact (r.2.2.2.2 e (by omega)).2.2.2.1
    · have hk' : k < n := by omega
      rw [acAt_push l12 (by omega)]
      obtain ⟨m1, m2, m3⟩ := ek k hk'
      obtain ⟨p1, p2, p3⟩ := a2 (k + shA ac) (by omega)
      refine ⟨by rw [v98, pI_ne 98 k (Or.inr q), m1]; exact p1, fun j hj => ?_, fun e he => ?_⟩
      · rw [v96, d2 _ (by omega), b96, m2 j (by omega)]; exact p2 j (by omega)
      · rw [v97, g2 _ (by omega), b97, m3 e (by omega)]; exact p3 e (by omega)
  refine Con.mk (by decide) ?_
  show RT _ _ 0 [some (.ref 74), none] [] _ _
  by_cases hq : ac.length = 12
  · have hs : shA ac = 1 := if_pos hq
    have g0 : FM rmS rmF h (pI h 74 51 (nI 11)) := FM.rf.pF rfl
    refine r_aload_0 dX8_remembers_0 ?_
    refine r_getI dX8_remembers_1 fl_X8_238 rfl ?_
    rw [a1, hq]
    refine r_bipush (v := nI 12) dX8_remembers_4 (by decide) ?_
    refine r_icmp_ne 117 dX8_remembers_6 (by decide) (fun c_6 => by exact absurd rfl c_6) (fun c_6 => ?_)
    refine r_aload_0 dX8_remembers_9 ?_
    refine r_dupr dX8_remembers_10 ?_
    refine r_getI dX8_remembers_11 fl_X8_238 rfl ?_
    rw [a1, hq]
    refine r_iconst (v := nI 1) dX8_remembers_14 (by decide) ?_
    refine r_isub dX8_remembers_15 ?_
    rw [show nI 12 - nI 1 = nI 11 by decide +kernel]
    refine r_putI dX8_remembers_16 fl_X8_238 rfl rfl rfl ?_
    refine r_iconst (v := nI 0) dX8_remembers_19 (by decide) ?_
    refine r_istore_1 dX8_remembers_20 ?_
    refine rm_98 (pI h 74 51 (nI 11)) pI_eq (fun h1 s1 f1 => ?_) 11 0 _ (by omega) (fun i hi => by omega) (fun i hi => rfl) FM.rf
    refine r_iconst (v := nI 0) dX8_remembers_49 (by decide) ?_
    refine r_istore_1 dX8_remembers_50 ?_
    refine rm_96 h1 ((f1.1 51 id).trans pI_eq) (fun h2 s2 f2 => ?_) 99 0 _ (by omega) (fun i hi => by omega) (fun i hi => rfl) FM.rf
    refine r_iconst (v := nI 0) dX8_remembers_83 (by decide) ?_
    refine r_istore_1 dX8_remembers_84 ?_
    refine rm_97 h2 ((f2.1 51 id).trans ((f1.1 51 id).trans pI_eq)) (fun h3 s3 f3 => ?_) 154 0 _ (by omega) (fun i hi => by omega) (fun i hi => rfl) FM.rf
    refine tail h3 11 (by omega) (by omega) ((f3.1 51 id).trans ((f2.1 51 id).trans ((f1.1 51 id).trans pI_eq))) (fun k hk => ⟨?_, fun j hj => ?_, fun e he => ?_⟩) (((g0.tr (fm_rm (by unfold rmS; omega) f1)).tr (fm_rm (by unfold rmS; omega) f2)).tr (fm_rm (by unfold rmS; omega) f3))
    · rw [hs, (f3.2.1 98 (by decide) (by decide)).1, (f2.2.1 98 (by decide) (by decide)).1, s1 k hk]; exact pI_ne 98 _ (Or.inl (by decide))
    · rw [hs, (f3.2.1 96 (by decide) (by decide)).1, s2 _ (by omega), (f1.2.1 96 (by decide) (by decide)).1, show 9 * k + j + 9 = 9 * (k + 1) + j by omega]; exact pI_ne 96 _ (Or.inl (by decide))
    · rw [hs, s3 _ (by omega), (f2.2.1 97 (by decide) (by decide)).1, (f1.2.1 97 (by decide) (by decide)).1, show 14 * k + e + 14 = 14 * (k + 1) + e by omega]; exact pI_ne 97 _ (Or.inl (by decide))
  · have hs : shA ac = 0 := if_neg hq
    refine r_aload_0 dX8_remembers_0 ?_
    refine r_getI dX8_remembers_1 fl_X8_238 rfl ?_
    rw [a1]
    refine r_bipush (v := nI 12) dX8_remembers_4 (by decide) ?_
    refine r_icmp_ne 117 dX8_remembers_6 (by decide) (fun c_6 => ?_) (fun c_6 => by exact absurd (nI_jn (by omega) (by omega) c_6) hq)
    exact tail h ac.length (by omega) (by omega) a1 (fun k hk => by rw [hs]; exact ⟨rfl, fun _ _ => rfl, fun _ _ => rfl⟩) FM.rf

