/-! ===== the reference: words, names ===== -/
def kwT : List (List Nat) := [[119, 101, 108, 108], [106, 111, 105, 110, 116], [97, 116], [112, 105, 112, 101], [99, 104, 101, 99, 107], [112, 117, 109, 112]]
def kwL (i : Nat) : List Nat := kwT.getD i []
theorem kw_len : ∀ i, i < 6 → strN.getD i 0 = (kwL i).length ∧ (kwL i).length ≤ 6 ∧ 0 < (kwL i).length := by decide
theorem kw_lets : ∀ i, i < 6 → lets (kwL i) := by unfold lets; decide
theorem kw_b : ∀ i, i < 6 → ∀ j, j < strN.getD i 0 → (strB.getD i []).getD j 0 = nI ((kwL i).getD j 0) := by decide +kernel
theorem kw_lt : ∀ i, i < 6 → ∀ j, j < strN.getD i 0 → (kwL i).getD j 0 < 256 := by decide
def eqR (B : Nat → Nat) (s : Nat) (L : List Nat) : Nat → Nat → Bool
  | 0, _ => true
  | m + 1, j => decide (B (s + j) = L.getD j 0) && eqR B s L m (j + 1)
theorem eqR_iff {B : Nat → Nat} {s : Nat} {L : List Nat} : ∀ m j, eqR B s L m j = true ↔ ∀ x, j ≤ x → x < j + m → B (s + x) = L.getD x 0 := by
  intro m
  induction m with
  | zero => intro j; exact ⟨fun _ x h1 h2 => by omega, fun _ => rfl⟩
  | succ m ih =>
    intro j
    show (decide (B (s + j) = L.getD j 0) && eqR B s L m (j + 1)) = true ↔ _
    rw [Bool.and_eq_true, decide_eq_true_iff, ih (j + 1)]
    refine ⟨fun h x h1 h2 => ?_, fun h => ⟨h j (by omega) (by omega), fun x h1 h2 => h x (by omega) (by omega)⟩⟩
    by_cases q : x = j
    · rw [q]; exact h.1
    · exact h.2 x (by omega) (by omega)
theorem wdL_eq {B : Nat → Nat} {s e : Nat} {L : List Nat} (h : e - s = L.length) : wdL B s e = L ↔ ∀ x, 0 ≤ x → x < 0 + L.length → B (s + x) = L.getD x 0 := by
  refine ⟨fun q x _ hx => ?_, fun q => ?_⟩
  · rw [← q, wdL_get (by omega)]
  · apply List.ext_getElem?
    intro i
    by_cases hi : i < L.length
    · have g1 := wdL_get (B := B) (s := s) (e := e) (i := i) (by omega)
      have g2 := q i (by omega) (by omega)
      rw [List.getD_eq_getElem?_getD] at g1 g2
      have l1 : i < (wdL B s e).length := by rw [wdL_len]; omega
      rw [List.getElem?_eq_getElem l1] at g1 ⊢
      rw [List.getElem?_eq_getElem hi] at g2 ⊢
      simp only [Option.getD_some] at g1 g2
      rw [g1, g2]
    · rw [List.getElem?_eq_none (by rw [wdL_len]; omega), List.getElem?_eq_none (by omega)]
theorem nI_c {a b : Nat} (ha : a < 256) (hb : b < 256) : nI a = nI b ↔ a = b := ⟨fun q => nI_jn (by omega) (by omega) q, fun q => by rw [q]⟩
set_option maxRecDepth 100000 in
set_option maxHeartbeats 4000000 in
theorem isw_loop {h : PH} {n : Nat} {B : Nat → Nat} (ok : OKB n B) (mb : MB h n B) {s i : Nat} (hi : i < 6) (hs : s + strN.getD i 0 ≤ n) (e19 : h.1 74 19 = nI s) : ∀ (m j : Nat), j + m = strN.getD i 0 → RT mX8_isWord 6 28 [some (.ref 74), some (.ref (2000 + i)), some (.int (nI j))] [] h (fun a h' => a = some (.int (b2i (eqR B s (kwL i) m j = true))) ∧ h' = h) := by
  have hn := ok.1
  have h5 := strN_le i hi
  intro m
  induction m with
  | zero =>
    intro j hj
    rw [b2i_t (show eqR B s (kwL i) 0 j = true from rfl)]
    refine r_iload_2 dX8_isWord_28 ?_
    refine r_aload_1 dX8_isWord_29 ?_
    refine rt_callT hi (M' := mJ0_length_8abf5) (as := []) (d' := 2) dX8_isWord_30 ml_X8_142 mo_J0_length_8abf5 (t_length h hi) (by decide) rfl rfl rfl ?_
    refine r_icmpN_ge 63 dX8_isWord_33 (by decide) (by omega) (by omega) (fun c_33 => ?_) (fun c_33 => by omega)
    refine r_iconst (v := 1) dX8_isWord_63 (by decide) ?_
    refine r_zret dX8_isWord_64 rfl rfl ?_
    exact ⟨rfl, rfl⟩
  | succ m ih =>
    intro j hj
    have hb := ok.2 (s + j) (by omega)
    have hk := kw_lt i hi j (by omega)
    by_cases hq : B (s + j) = (kwL i).getD j 0
    · rw [show eqR B s (kwL i) (m + 1) j = eqR B s (kwL i) m (j + 1) by show (decide (B (s + j) = (kwL i).getD j 0) && eqR B s (kwL i) m (j + 1)) = _; rw [decide_eq_true hq, Bool.true_and]]
      refine r_iload_2 dX8_isWord_28 ?_
      refine r_aload_1 dX8_isWord_29 ?_
      refine rt_callT hi (M' := mJ0_length_8abf5) (as := []) (d' := 2) dX8_isWord_30 ml_X8_142 mo_J0_length_8abf5 (t_length h hi) (by decide) rfl rfl rfl ?_
      refine r_icmpN_ge 63 dX8_isWord_33 (by decide) (by omega) (by omega) (fun c_33 => by omega) (fun c_33 => ?_)
      refine r_aload_0 dX8_isWord_36 ?_
      refine r_getR (a := 75) dX8_isWord_37 fl_X8_15 rfl rfl ?_
      refine r_aload_0 dX8_isWord_40 ?_
      refine r_getI dX8_isWord_41 fl_X8_121 rfl ?_
      rw [e19]
      refine r_iload_2 dX8_isWord_44 ?_
      refine r_iadd dX8_isWord_45 ?_
      rw [nI_ad9]
      refine r_ialdN dX8_isWord_46 rfl (by omega) ?_
      rw [mb.2 (s + j) (by omega)]
      refine r_aload_1 dX8_isWord_47 ?_
      refine r_iload_2 dX8_isWord_48 ?_
      refine rt_callT hi (M' := mJ0_charAt_5068e) (as := [.int (nI j)]) (d' := 4) dX8_isWord_49 ml_X8_148 mo_J0_charAt_5068e (t_charAt h hi (by omega)) (by decide) rfl rfl rfl ?_
      rw [kw_b i hi j (by omega)]
      refine r_icmp_eq 57 dX8_isWord_52 (by decide) (fun c_52 => ?_) (fun c_52 => by exact absurd ((nI_c hb hk).mpr hq) c_52)
      refine r_iincN_2 dX8_isWord_57 ?_
      refine r_goto 28 dX8_isWord_60 (by decide) ?_
      exact ih (j + 1) (by omega)
    · rw [b2i_f (show ¬ eqR B s (kwL i) (m + 1) j = true by show ¬ (decide (B (s + j) = (kwL i).getD j 0) && eqR B s (kwL i) m (j + 1)) = true; rw [decide_eq_false hq, Bool.false_and]; decide)]
      refine r_iload_2 dX8_isWord_28 ?_
      refine r_aload_1 dX8_isWord_29 ?_
      refine rt_callT hi (M' := mJ0_length_8abf5) (as := []) (d' := 2) dX8_isWord_30 ml_X8_142 mo_J0_length_8abf5 (t_length h hi) (by decide) rfl rfl rfl ?_
      refine r_icmpN_ge 63 dX8_isWord_33 (by decide) (by omega) (by omega) (fun c_33 => by omega) (fun c_33 => ?_)
      refine r_aload_0 dX8_isWord_36 ?_
      refine r_getR (a := 75) dX8_isWord_37 fl_X8_15 rfl rfl ?_
      refine r_aload_0 dX8_isWord_40 ?_
      refine r_getI dX8_isWord_41 fl_X8_121 rfl ?_
      rw [e19]
      refine r_iload_2 dX8_isWord_44 ?_
      refine r_iadd dX8_isWord_45 ?_
      rw [nI_ad9]
      refine r_ialdN dX8_isWord_46 rfl (by omega) ?_
      rw [mb.2 (s + j) (by omega)]
      refine r_aload_1 dX8_isWord_47 ?_
      refine r_iload_2 dX8_isWord_48 ?_
      refine rt_callT hi (M' := mJ0_charAt_5068e) (as := [.int (nI j)]) (d' := 4) dX8_isWord_49 ml_X8_148 mo_J0_charAt_5068e (t_charAt h hi (by omega)) (by decide) rfl rfl rfl ?_
      rw [kw_b i hi j (by omega)]
      refine r_icmp_eq 57 dX8_isWord_52 (by decide) (fun c_52 => by exact absurd ((nI_c hb hk).mp c_52) hq) (fun c_52 => ?_)
      refine r_iconst (v := 0) dX8_isWord_55 (by decide) ?_
      refine r_zret dX8_isWord_56 rfl rfl ?_
      exact ⟨rfl, rfl⟩
theorem tkM_1 {k : Nat} (h : k ≤ 5) : tkM k = 2 ↔ k = 1 := (by decide : ∀ k, k ≤ 5 → (tkM k = 2 ↔ k = 1)) k h
set_option maxRecDepth 100000 in
set_option maxHeartbeats 4000000 in
theorem q_isWord {h : PH} {n : Nat} {B : Nat → Nat} (ok : OKB n B) (mb : MB h n B) {k : TK} (mk : MK h B k) (tk : TKok n k) {i : Nat} (hi : i < 6) : ConF mX8_isWord 6 [.ref 74, .ref (2000 + i)] h (some (.int (b2i (k.1 = 1 ∧ wd B k = kwL i)))) h := by
  have hn := ok.1
  have h5 := strN_le i hi
  obtain ⟨m1, m2, m3, -⟩ := mk
  obtain ⟨k1, k2, k3, k4⟩ := tk
  refine Con.mk (by decide) ?_
  show RT _ _ 0 [some (.ref 74), some (.ref (2000 + i)), none] [] _ _
  by_cases h1 : k.1 = 1
  · by_cases hl : k.2.2 - k.2.1 = strN.getD i 0
    · have e : b2i (k.1 = 1 ∧ wd B k = kwL i) = b2i (eqR B k.2.1 (kwL i) (strN.getD i 0) 0 = true) := b2i_c (by
        rw [eqR_iff, (kw_len i hi).1]
        exact ⟨fun q => (wdL_eq (by rw [hl, (kw_len i hi).1])).mp q.2, fun q => ⟨h1, (wdL_eq (by rw [hl, (kw_len i hi).1])).mpr q⟩⟩)
      rw [e]
      refine r_aload_0 dX8_isWord_0 ?_
      refine r_getI dX8_isWord_1 fl_X8_124 rfl ?_
      rw [m1]
      refine r_iconst (v := 2) dX8_isWord_4 (by decide) ?_
      refine r_icmp_ne 24 dX8_isWord_5 (by decide) (fun c_5 => by exact absurd ((tkM_1 k4).mpr h1) c_5) (fun c_5 => ?_)
      refine r_aload_0 dX8_isWord_8 ?_
      refine r_getI dX8_isWord_9 fl_X8_114 rfl ?_
      rw [m3]
      refine r_aload_0 dX8_isWord_12 ?_
      refine r_getI dX8_isWord_13 fl_X8_121 rfl ?_
      rw [m2]
      refine r_isub dX8_isWord_16 ?_
      rw [nI_sb k1]
      refine r_aload_1 dX8_isWord_17 ?_
      refine rt_callT hi (M' := mJ0_length_8abf5) (as := []) (d' := 2) dX8_isWord_18 ml_X8_142 mo_J0_length_8abf5 (t_length h hi) (by decide) rfl rfl rfl ?_
      refine r_icmpN_eq 26 dX8_isWord_21 (by decide) (by omega) (by omega) (fun c_21 => ?_) (fun c_21 => by omega)
      refine r_iconst (v := nI 0) dX8_isWord_26 (by decide) ?_
      refine r_istore_2 dX8_isWord_27 ?_
      exact isw_loop ok mb hi (by omega) m2 (strN.getD i 0) 0 (by omega)
    · rw [b2i_f (fun q => hl (by have := congrArg List.length q.2; unfold wd at this; rw [wdL_len] at this; rw [this, (kw_len i hi).1]))]
      refine r_aload_0 dX8_isWord_0 ?_
      refine r_getI dX8_isWord_1 fl_X8_124 rfl ?_
      rw [m1]
      refine r_iconst (v := 2) dX8_isWord_4 (by decide) ?_
      refine r_icmp_ne 24 dX8_isWord_5 (by decide) (fun c_5 => by exact absurd ((tkM_1 k4).mpr h1) c_5) (fun c_5 => ?_)
      refine r_aload_0 dX8_isWord_8 ?_
      refine r_getI dX8_isWord_9 fl_X8_114 rfl ?_
      rw [m3]
      refine r_aload_0 dX8_isWord_12 ?_
      refine r_getI dX8_isWord_13 fl_X8_121 rfl ?_
      rw [m2]
      refine r_isub dX8_isWord_16 ?_
      rw [nI_sb k1]
      refine r_aload_1 dX8_isWord_17 ?_
      refine rt_callT hi (M' := mJ0_length_8abf5) (as := []) (d' := 2) dX8_isWord_18 ml_X8_142 mo_J0_length_8abf5 (t_length h hi) (by decide) rfl rfl rfl ?_
      refine r_icmpN_eq 26 dX8_isWord_21 (by decide) (by omega) (by omega) (fun c_21 => by omega) (fun c_21 => ?_)
      refine r_iconst (v := 0) dX8_isWord_24 (by decide) ?_
      refine r_zret dX8_isWord_25 rfl rfl ?_
      exact ⟨rfl, rfl⟩
  · rw [b2i_f (fun q => h1 q.1)]
    refine r_aload_0 dX8_isWord_0 ?_
    refine r_getI dX8_isWord_1 fl_X8_124 rfl ?_
    rw [m1]
    refine r_iconst (v := 2) dX8_isWord_4 (by decide) ?_
    refine r_icmp_ne 24 dX8_isWord_5 (by decide) (fun c_5 => ?_) (fun c_5 => by exact absurd ((tkM_1 k4).mp c_5) h1)
    refine r_iconst (v := 0) dX8_isWord_24 (by decide) ?_
    refine r_zret dX8_isWord_25 rfl rfl ?_
    exact ⟨rfl, rfl⟩

abbrev isNm (B : Nat → Nat) (k : TK) : Prop := k.1 = 1 ∧ ¬ wd B k = kwL 0 ∧ ¬ wd B k = kwL 1 ∧ ¬ wd B k = kwL 2 ∧ ¬ wd B k = kwL 3 ∧ ¬ wd B k = kwL 4 ∧ ¬ wd B k = kwL 5
set_option maxRecDepth 100000 in
set_option maxHeartbeats 4000000 in
theorem q_isName {h : PH} {n : Nat} {B : Nat → Nat} (ok : OKB n B) (mb : MB h n B) {k : TK} (mk : MK h B k) (tk : TKok n k) : ConF mX8_isName 7 [.ref 74] h (some (.int (b2i (isNm B k)))) h := by
  have k4 := tk.2.2.2
  have m1 := mk.1
  have kw : ∀ i, i < 6 → ConF mX8_isWord 6 [.ref 74, .ref (2000 + i)] h (some (.int (b2i (k.1 = 1 ∧ wd B k = kwL i)))) h := fun i hi => q_isWord ok mb mk tk hi
  refine Con.mk (by decide) ?_
  show RT _ _ 0 [some (.ref 74)] [] _ _
  by_cases h1 : k.1 = 1
  · by_cases w0 : wd B k = kwL 0
    · rw [b2i_f (fun q : isNm B k => q.2.1 w0)]
      refine r_aload_0 dX8_isName_0 ?_
      refine r_getI dX8_isName_1 fl_X8_124 rfl ?_
      rw [m1]
      refine r_iconst (v := 2) dX8_isName_4 (by decide) ?_
      refine r_icmp_ne 66 dX8_isName_5 (by decide) (fun c_5 => by exact absurd ((tkM_1 k4).mpr h1) c_5) (fun c_5 => ?_)
      refine r_aload_0 dX8_isName_8 ?_
      refine r_ldcS (i := 0) (by decide) rfl dX8_isName_9 ?_
      refine r_cV1 mX8_isWord dX8_isName_11 ml_X8_160 mo_X8_isWord rfl (kw 0 (by decide)) (by decide) ?_
      rw [b2i_t ⟨h1, w0⟩]
      refine r_if_ne 66 dX8_isName_14 (by decide) (fun c_14 => ?_) (fun c_14 => by exact absurd c_14 (by decide))
      refine r_iconst (v := 0) dX8_isName_66 (by decide) ?_
      refine r_zret dX8_isName_67 rfl rfl ?_
      exact ⟨rfl, rfl⟩
    · by_cases w1 : wd B k = kwL 1
      · rw [b2i_f (fun q : isNm B k => q.2.2.1 w1)]
        refine r_aload_0 dX8_isName_0 ?_
        refine r_getI dX8_isName_1 fl_X8_124 rfl ?_
        rw [m1]
        refine r_iconst (v := 2) dX8_isName_4 (by decide) ?_
        refine r_icmp_ne 66 dX8_isName_5 (by decide) (fun c_5 => by exact absurd ((tkM_1 k4).mpr h1) c_5) (fun c_5 => ?_)
        refine r_aload_0 dX8_isName_8 ?_
        refine r_ldcS (i := 0) (by decide) rfl dX8_isName_9 ?_
        refine r_cV1 mX8_isWord dX8_isName_11 ml_X8_160 mo_X8_isWord rfl (kw 0 (by decide)) (by decide) ?_
        rw [b2i_f (fun q => w0 q.2)]
        refine r_if_ne 66 dX8_isName_14 (by decide) (fun c_14 => by exact absurd rfl c_14) (fun c_14 => ?_)
        refine r_aload_0 dX8_isName_17 ?_
        refine r_ldcS (i := 1) (by decide) rfl dX8_isName_18 ?_
        refine r_cV1 mX8_isWord dX8_isName_20 ml_X8_160 mo_X8_isWord rfl (kw 1 (by decide)) (by decide) ?_
        rw [b2i_t ⟨h1, w1⟩]
        refine r_if_ne 66 dX8_isName_23 (by decide) (fun c_23 => ?_) (fun c_23 => by exact absurd c_23 (by decide))
        refine r_iconst (v := 0) dX8_isName_66 (by decide) ?_
        refine r_zret dX8_isName_67 rfl rfl ?_
        exact ⟨rfl, rfl⟩
      · by_cases w2 : wd B k = kwL 2
        · rw [b2i_f (fun q : isNm B k => q.2.2.2.1 w2)]
          refine r_aload_0 dX8_isName_0 ?_
          refine r_getI dX8_isName_1 fl_X8_124 rfl ?_
          rw [m1]
          refine r_iconst (v := 2) dX8_isName_4 (by decide) ?_
          refine r_icmp_ne 66 dX8_isName_5 (by decide) (fun c_5 => by exact absurd ((tkM_1 k4).mpr h1) c_5) (fun c_5 => ?_)
          refine r_aload_0 dX8_isName_8 ?_
          refine r_ldcS (i := 0) (by decide) rfl dX8_isName_9 ?_
          refine r_cV1 mX8_isWord dX8_isName_11 ml_X8_160 mo_X8_isWord rfl (kw 0 (by decide)) (by decide) ?_
          rw [b2i_f (fun q => w0 q.2)]
          refine r_if_ne 66 dX8_isName_14 (by decide) (fun c_14 => by exact absurd rfl c_14) (fun c_14 => ?_)
          refine r_aload_0 dX8_isName_17 ?_
          refine r_ldcS (i := 1) (by decide) rfl dX8_isName_18 ?_
          refine r_cV1 mX8_isWord dX8_isName_20 ml_X8_160 mo_X8_isWord rfl (kw 1 (by decide)) (by decide) ?_
          rw [b2i_f (fun q => w1 q.2)]
          refine r_if_ne 66 dX8_isName_23 (by decide) (fun c_23 => by exact absurd rfl c_23) (fun c_23 => ?_)
          refine r_aload_0 dX8_isName_26 ?_
          refine r_ldcS (i := 2) (by decide) rfl dX8_isName_27 ?_
          refine r_cV1 mX8_isWord dX8_isName_29 ml_X8_160 mo_X8_isWord rfl (kw 2 (by decide)) (by decide) ?_
          rw [b2i_t ⟨h1, w2⟩]
          refine r_if_ne 66 dX8_isName_32 (by decide) (fun c_32 => ?_) (fun c_32 => by exact absurd c_32 (by decide))
          refine r_iconst (v := 0) dX8_isName_66 (by decide) ?_
          refine r_zret dX8_isName_67 rfl rfl ?_
          exact ⟨rfl, rfl⟩
        · by_cases w3 : wd B k = kwL 3
          · rw [b2i_f (fun q : isNm B k => q.2.2.2.2.1 w3)]
            refine r_aload_0 dX8_isName_0 ?_
            refine r_getI dX8_isName_1 fl_X8_124 rfl ?_
            rw [m1]
            refine r_iconst (v := 2) dX8_isName_4 (by decide) ?_
            refine r_icmp_ne 66 dX8_isName_5 (by decide) (fun c_5 => by exact absurd ((tkM_1 k4).mpr h1) c_5) (fun c_5 => ?_)
            refine r_aload_0 dX8_isName_8 ?_
            refine r_ldcS (i := 0) (by decide) rfl dX8_isName_9 ?_
            refine r_cV1 mX8_isWord dX8_isName_11 ml_X8_160 mo_X8_isWord rfl (kw 0 (by decide)) (by decide) ?_
            rw [b2i_f (fun q => w0 q.2)]
            refine r_if_ne 66 dX8_isName_14 (by decide) (fun c_14 => by exact absurd rfl c_14) (fun c_14 => ?_)
            refine r_aload_0 dX8_isName_17 ?_
            refine r_ldcS (i := 1) (by decide) rfl dX8_isName_18 ?_
            refine r_cV1 mX8_isWord dX8_isName_20 ml_X8_160 mo_X8_isWord rfl (kw 1 (by decide)) (by decide) ?_
            rw [b2i_f (fun q => w1 q.2)]
            refine r_if_ne 66 dX8_isName_23 (by decide) (fun c_23 => by exact absurd rfl c_23) (fun c_23 => ?_)
            refine r_aload_0 dX8_isName_26 ?_
            refine r_ldcS (i := 2) (by decide) rfl dX8_isName_27 ?_
            refine r_cV1 mX8_isWord dX8_isName_29 ml_X8_160 mo_X8_isWord rfl (kw 2 (by decide)) (by decide) ?_
            rw [b2i_f (fun q => w2 q.2)]
            refine r_if_ne 66 dX8_isName_32 (by decide) (fun c_32 => by exact absurd rfl c_32) (fun c_32 => ?_)
            refine r_aload_0 dX8_isName_35 ?_
            refine r_ldcS (i := 3) (by decide) rfl dX8_isName_36 ?_
            refine r_cV1 mX8_isWord dX8_isName_38 ml_X8_160 mo_X8_isWord rfl (kw 3 (by decide)) (by decide) ?_
            rw [b2i_t ⟨h1, w3⟩]
            refine r_if_ne 66 dX8_isName_41 (by decide) (fun c_41 => ?_) (fun c_41 => by exact absurd c_41 (by decide))
            refine r_iconst (v := 0) dX8_isName_66 (by decide) ?_
            refine r_zret dX8_isName_67 rfl rfl ?_
            exact ⟨rfl, rfl⟩
          · by_cases w4 : wd B k = kwL 4
            · rw [b2i_f (fun q : isNm B k => q.2.2.2.2.2.1 w4)]
              refine r_aload_0 dX8_isName_0 ?_
              refine r_getI dX8_isName_1 fl_X8_124 rfl ?_
              rw [m1]
              refine r_iconst (v := 2) dX8_isName_4 (by decide) ?_
              refine r_icmp_ne 66 dX8_isName_5 (by decide) (fun c_5 => by exact absurd ((tkM_1 k4).mpr h1) c_5) (fun c_5 => ?_)
              refine r_aload_0 dX8_isName_8 ?_
              refine r_ldcS (i := 0) (by decide) rfl dX8_isName_9 ?_
              refine r_cV1 mX8_isWord dX8_isName_11 ml_X8_160 mo_X8_isWord rfl (kw 0 (by decide)) (by decide) ?_
              rw [b2i_f (fun q => w0 q.2)]
              refine r_if_ne 66 dX8_isName_14 (by decide) (fun c_14 => by exact absurd rfl c_14) (fun c_14 => ?_)
              refine r_aload_0 dX8_isName_17 ?_
              refine r_ldcS (i := 1) (by decide) rfl dX8_isName_18 ?_
              refine r_cV1 mX8_isWord dX8_isName_20 ml_X8_160 mo_X8_isWord rfl (kw 1 (by decide)) (by decide) ?_
              rw [b2i_f (fun q => w1 q.2)]
              refine r_if_ne 66 dX8_isName_23 (by decide) (fun c_23 => by exact absurd rfl c_23) (fun c_23 => ?_)
              refine r_aload_0 dX8_isName_26 ?_
              refine r_ldcS (i := 2) (by decide) rfl dX8_isName_27 ?_
              refine r_cV1 mX8_isWord dX8_isName_29 ml_X8_160 mo_X8_isWord rfl (kw 2 (by decide)) (by decide) ?_
              rw [b2i_f (fun q => w2 q.2)]
              refine r_if_ne 66 dX8_isName_32 (by decide) (fun c_32 => by exact absurd rfl c_32) (fun c_32 => ?_)
              refine r_aload_0 dX8_isName_35 ?_
              refine r_ldcS (i := 3) (by decide) rfl dX8_isName_36 ?_
              refine r_cV1 mX8_isWord dX8_isName_38 ml_X8_160 mo_X8_isWord rfl (kw 3 (by decide)) (by decide) ?_
              rw [b2i_f (fun q => w3 q.2)]
              refine r_if_ne 66 dX8_isName_41 (by decide) (fun c_41 => by exact absurd rfl c_41) (fun c_41 => ?_)
              refine r_aload_0 dX8_isName_44 ?_
              refine r_ldcS (i := 4) (by decide) rfl dX8_isName_45 ?_
              refine r_cV1 mX8_isWord dX8_isName_47 ml_X8_160 mo_X8_isWord rfl (kw 4 (by decide)) (by decide) ?_
              rw [b2i_t ⟨h1, w4⟩]
              refine r_if_ne 66 dX8_isName_50 (by decide) (fun c_50 => ?_) (fun c_50 => by exact absurd c_50 (by decide))
              refine r_iconst (v := 0) dX8_isName_66 (by decide) ?_
              refine r_zret dX8_isName_67 rfl rfl ?_
              exact ⟨rfl, rfl⟩
            · by_cases w5 : wd B k = kwL 5
              · rw [b2i_f (fun q : isNm B k => q.2.2.2.2.2.2 w5)]
                refine r_aload_0 dX8_isName_0 ?_
                refine r_getI dX8_isName_1 fl_X8_124 rfl ?_
                rw [m1]
                refine r_iconst (v := 2) dX8_isName_4 (by decide) ?_
                refine r_icmp_ne 66 dX8_isName_5 (by decide) (fun c_5 => by exact absurd ((tkM_1 k4).mpr h1) c_5) (fun c_5 => ?_)
                refine r_aload_0 dX8_isName_8 ?_
                refine r_ldcS (i := 0) (by decide) rfl dX8_isName_9 ?_
                refine r_cV1 mX8_isWord dX8_isName_11 ml_X8_160 mo_X8_isWord rfl (kw 0 (by decide)) (by decide) ?_
                rw [b2i_f (fun q => w0 q.2)]
                refine r_if_ne 66 dX8_isName_14 (by decide) (fun c_14 => by exact absurd rfl c_14) (fun c_14 => ?_)
                refine r_aload_0 dX8_isName_17 ?_
                refine r_ldcS (i := 1) (by decide) rfl dX8_isName_18 ?_
                refine r_cV1 mX8_isWord dX8_isName_20 ml_X8_160 mo_X8_isWord rfl (kw 1 (by decide)) (by decide) ?_
                rw [b2i_f (fun q => w1 q.2)]
                refine r_if_ne 66 dX8_isName_23 (by decide) (fun c_23 => by exact absurd rfl c_23) (fun c_23 => ?_)
                refine r_aload_0 dX8_isName_26 ?_
                refine r_ldcS (i := 2) (by decide) rfl dX8_isName_27 ?_
                refine r_cV1 mX8_isWord dX8_isName_29 ml_X8_160 mo_X8_isWord rfl (kw 2 (by decide)) (by decide) ?_
                rw [b2i_f (fun q => w2 q.2)]
                refine r_if_ne 66 dX8_isName_32 (by decide) (fun c_32 => by exact absurd rfl c_32) (fun c_32 => ?_)
                refine r_aload_0 dX8_isName_35 ?_
                refine r_ldcS (i := 3) (by decide) rfl dX8_isName_36 ?_
                refine r_cV1 mX8_isWord dX8_isName_38 ml_X8_160 mo_X8_isWord rfl (kw 3 (by decide)) (by decide) ?_
                rw [b2i_f (fun q => w3 q.2)]
                refine r_if_ne 66 dX8_isName_41 (by decide) (fun c_41 => by exact absurd rfl c_41) (fun c_41 => ?_)
                refine r_aload_0 dX8_isName_44 ?_
                refine r_ldcS (i := 4) (by decide) rfl dX8_isName_45 ?_
                refine r_cV1 mX8_isWord dX8_isName_47 ml_X8_160 mo_X8_isWord rfl (kw 4 (by decide)) (by decide) ?_
                rw [b2i_f (fun q => w4 q.2)]
                refine r_if_ne 66 dX8_isName_50 (by decide) (fun c_50 => by exact absurd rfl c_50) (fun c_50 => ?_)
                refine r_aload_0 dX8_isName_53 ?_
                refine r_ldcS (i := 5) (by decide) rfl dX8_isName_54 ?_
                refine r_cV1 mX8_isWord dX8_isName_56 ml_X8_160 mo_X8_isWord rfl (kw 5 (by decide)) (by decide) ?_
                rw [b2i_t ⟨h1, w5⟩]
                refine r_if_ne 66 dX8_isName_59 (by decide) (fun c_59 => ?_) (fun c_59 => by exact absurd c_59 (by decide))
                refine r_iconst (v := 0) dX8_isName_66 (by decide) ?_
                refine r_zret dX8_isName_67 rfl rfl ?_
                exact ⟨rfl, rfl⟩
              · rw [b2i_t (show isNm B k from ⟨h1, w0, w1, w2, w3, w4, w5⟩)]
                refine r_aload_0 dX8_isName_0 ?_
                refine r_getI dX8_isName_1 fl_X8_124 rfl ?_
                rw [m1]
                refine r_iconst (v := 2) dX8_isName_4 (by decide) ?_
                refine r_icmp_ne 66 dX8_isName_5 (by decide) (fun c_5 => by exact absurd ((tkM_1 k4).mpr h1) c_5) (fun c_5 => ?_)
                refine r_aload_0 dX8_isName_8 ?_
                refine r_ldcS (i := 0) (by decide) rfl dX8_isName_9 ?_
                refine r_cV1 mX8_isWord dX8_isName_11 ml_X8_160 mo_X8_isWord rfl (kw 0 (by decide)) (by decide) ?_
                rw [b2i_f (fun q => w0 q.2)]
                refine r_if_ne 66 dX8_isName_14 (by decide) (fun c_14 => by exact absurd rfl c_14) (fun c_14 => ?_)
                refine r_aload_0 dX8_isName_17 ?_
                refine r_ldcS (i := 1) (by decide) rfl dX8_isName_18 ?_
                refine r_cV1 mX8_isWord dX8_isName_20 ml_X8_160 mo_X8_isWord rfl (kw 1 (by decide)) (by decide) ?_
                rw [b2i_f (fun q => w1 q.2)]
                refine r_if_ne 66 dX8_isName_23 (by decide) (fun c_23 => by exact absurd rfl c_23) (fun c_23 => ?_)
                refine r_aload_0 dX8_isName_26 ?_
                refine r_ldcS (i := 2) (by decide) rfl dX8_isName_27 ?_
                refine r_cV1 mX8_isWord dX8_isName_29 ml_X8_160 mo_X8_isWord rfl (kw 2 (by decide)) (by decide) ?_
                rw [b2i_f (fun q => w2 q.2)]
                refine r_if_ne 66 dX8_isName_32 (by decide) (fun c_32 => by exact absurd rfl c_32) (fun c_32 => ?_)
                refine r_aload_0 dX8_isName_35 ?_
                refine r_ldcS (i := 3) (by decide) rfl dX8_isName_36 ?_
                refine r_cV1 mX8_isWord dX8_isName_38 ml_X8_160 mo_X8_isWord rfl (kw 3 (by decide)) (by decide) ?_
                rw [b2i_f (fun q => w3 q.2)]
                refine r_if_ne 66 dX8_isName_41 (by decide) (fun c_41 => by exact absurd rfl c_41) (fun c_41 => ?_)
                refine r_aload_0 dX8_isName_44 ?_
                refine r_ldcS (i := 4) (by decide) rfl dX8_isName_45 ?_
                refine r_cV1 mX8_isWord dX8_isName_47 ml_X8_160 mo_X8_isWord rfl (kw 4 (by decide)) (by decide) ?_
                rw [b2i_f (fun q => w4 q.2)]
                refine r_if_ne 66 dX8_isName_50 (by decide) (fun c_50 => by exact absurd rfl c_50) (fun c_50 => ?_)
                refine r_aload_0 dX8_isName_53 ?_
                refine r_ldcS (i := 5) (by decide) rfl dX8_isName_54 ?_
                refine r_cV1 mX8_isWord dX8_isName_56 ml_X8_160 mo_X8_isWord rfl (kw 5 (by decide)) (by decide) ?_
                rw [b2i_f (fun q => w5 q.2)]
                refine r_if_ne 66 dX8_isName_59 (by decide) (fun c_59 => by exact absurd rfl c_59) (fun c_59 => ?_)
                refine r_iconst (v := 1) dX8_isName_62 (by decide) ?_
                refine r_goto 67 dX8_isName_63 (by decide) ?_
                refine r_zret dX8_isName_67 rfl rfl ?_
                exact ⟨rfl, rfl⟩
  · rw [b2i_f (fun q : isNm B k => h1 q.1)]
    refine r_aload_0 dX8_isName_0 ?_
    refine r_getI dX8_isName_1 fl_X8_124 rfl ?_
    rw [m1]
    refine r_iconst (v := 2) dX8_isName_4 (by decide) ?_
    refine r_icmp_ne 66 dX8_isName_5 (by decide) (fun c_5 => ?_) (fun c_5 => by exact absurd ((tkM_1 k4).mp c_5) h1)
    refine r_iconst (v := 0) dX8_isName_66 (by decide) ?_
    refine r_zret dX8_isName_67 rfl rfl ?_
    exact ⟨rfl, rfl⟩

/-! names laid letter by letter -/
def cX (B : Nat → Nat) (f t : Nat) (L : List Nat) (x : Nat) : Bool := decide (L.getD x 0 = if f + x < t then B (f + x) else 0) && (decide (t ≤ f + x) || decide (B (f + x) ≠ 0))
def aX (B : Nat → Nat) (f t : Nat) (L : List Nat) : Nat → Nat → Bool → Bool
  | 0, _, b => b
  | m + 1, x, b => aX B f t L m (x + 1) (b && cX B f t L x)
theorem aX_iff {B : Nat → Nat} {f t : Nat} {L : List Nat} : ∀ m x b, aX B f t L m x b = true ↔ b = true ∧ ∀ y, x ≤ y → y < x + m → cX B f t L y = true := by
  intro m
  induction m with
  | zero => intro x b; exact ⟨fun h => ⟨h, fun y h1 h2 => by omega⟩, fun h => h.1⟩
  | succ m ih =>
    intro x b
    show aX B f t L m (x + 1) (b && cX B f t L x) = true ↔ _
    rw [ih, Bool.and_eq_true]
    refine ⟨fun h => ⟨h.1.1, fun y h1 h2 => ?_⟩, fun h => ⟨⟨h.1, h.2 x (by omega) (by omega)⟩, fun y h1 h2 => h.2 y (by omega) (by omega)⟩⟩
    by_cases q : y = x
    · rw [q]; exact h.1.2
    · exact h.2 y (by omega) (by omega)
theorem getD_out {L : List Nat} {x : Nat} (h : L.length ≤ x) : L.getD x 0 = 0 := by
  rw [List.getD_eq_getElem?_getD, List.getElem?_eq_none h]; rfl
theorem getD_in {L : List Nat} (hL : lets L) {x : Nat} (h : x < L.length) : 97 ≤ L.getD x 0 ∧ L.getD x 0 ≤ 122 := by
  rw [List.getD_eq_getElem?_getD, List.getElem?_eq_getElem h]
  exact hL _ (List.getElem_mem h)
theorem getD_256 {L : List Nat} (hL : lets L) {x : Nat} : L.getD x 0 < 256 := by
  by_cases h : x < L.length
  · have := getD_in hL h; omega
  · rw [getD_out (by omega)]; omega
theorem aX_wd {B : Nat → Nat} {f t : Nat} {L : List Nat} (hL : lets L) (l6 : L.length ≤ 6) (hft : f ≤ t) : aX B f t L 6 0 (decide (t - f ≤ 6)) = true ↔ wdL B f t = L := by
  rw [aX_iff, decide_eq_true_iff]
  constructor
  · intro ⟨h6, h⟩
    have hc : ∀ y, y < 6 → (L.getD y 0 = if f + y < t then B (f + y) else 0) ∧ (t ≤ f + y ∨ B (f + y) ≠ 0) := fun y hy => by
      have := h y (by omega) (by omega)
      unfold cX at this
      rw [Bool.and_eq_true, Bool.or_eq_true, decide_eq_true_iff, decide_eq_true_iff, decide_eq_true_iff] at this
      exact this
    have el : t - f = L.length := by
      by_cases q : t - f < L.length
      · have a := hc (t - f) (by omega)
        rw [if_neg (by omega)] at a
        have := getD_in hL q
        omega
      · by_cases q2 : L.length < t - f
        · have a := hc L.length (by omega)
          rw [if_pos (by omega), getD_out (Nat.le_refl _)] at a
          have := a.2
          omega
        · omega
    refine (wdL_eq el).mpr (fun x _ hx => ?_)
    have a := (hc x (by omega)).1
    rw [if_pos (by omega)] at a
    exact a.symm
  · intro h
    have el : t - f = L.length := by rw [← h, wdL_len]
    refine ⟨by omega, fun y _ hy => ?_⟩
    unfold cX
    rw [Bool.and_eq_true, Bool.or_eq_true, decide_eq_true_iff, decide_eq_true_iff, decide_eq_true_iff]
    by_cases q : y < L.length
    · have a := (wdL_eq el).mp h y (by omega) (by omega)
      have := getD_in hL q
      rw [if_pos (by omega)]
      exact ⟨a.symm, Or.inr (by omega)⟩
    · rw [if_neg (by omega), getD_out (by omega)]
      exact ⟨rfl, Or.inl (by omega)⟩
set_option maxRecDepth 100000 in
set_option maxHeartbeats 4000000 in
theorem isAt_loop {h : PH} {n : Nat} {B : Nat → Nat} (ok : OKB n B) (mt : ∀ i, i < n → h.1 75 i = nI (B i)) {a f t : Nat} (ha : a + 6 ≤ 108) (ht : t ≤ n) (hft : f ≤ t) {L : List Nat} (hL : lets L) (hs : ∀ k, k < 6 → h.1 78 (a + k) = nI (L.getD k 0)) : ∀ (m k : Nat) (b : Bool), k + m = 6 → RT mX8_isAt 1 18 [some (.ref 74), some (.int (nI a)), some (.int (nI f)), some (.int (nI t)), some (.int (bI b)), some (.int (nI k))] [] h (fun r h' => r = some (.int (bI (aX B f t L m k b))) ∧ h' = h) := by
  have hn := ok.1
  intro m
  induction m with
  | zero =>
    intro k b hk
    refine r_iload_5 dX8_isAt_18 ?_
    refine r_bipush (v := nI 6) dX8_isAt_20 (by decide) ?_
    refine r_icmpN_ge 96 dX8_isAt_22 (by decide) (by omega) (by omega) (fun c_22 => ?_) (fun c_22 => by omega)
    refine r_iload_4 dX8_isAt_96 ?_
    refine r_zret dX8_isAt_98 rfl (by cases b <;> rfl) ?_
    exact ⟨rfl, rfl⟩
  | succ m ih =>
    intro k b hk
    have go : ∀ b', (b && cX B f t L k) = b' → RT mX8_isAt 1 18 [some (.ref 74), some (.int (nI a)), some (.int (nI f)), some (.int (nI t)), some (.int (bI b')), some (.int (nI (k + 1)))] [] h (fun r h' => r = some (.int (bI (aX B f t L (m + 1) k b))) ∧ h' = h) := fun b' e => by
      show RT _ _ _ _ _ _ (fun r h' => r = some (.int (bI (aX B f t L m (k + 1) (b && cX B f t L k)))) ∧ h' = h)
      rw [e]; exact ih (k + 1) b' (by omega)
    cases b with
    | false =>
      refine r_iload_5 dX8_isAt_18 ?_
      refine r_bipush (v := nI 6) dX8_isAt_20 (by decide) ?_
      refine r_icmpN_ge 96 dX8_isAt_22 (by decide) (by omega) (by omega) (fun c_22 => by omega) (fun c_22 => ?_)
      refine r_iload_4 dX8_isAt_25 ?_
      refine r_if_eq 87 dX8_isAt_27 (by decide) (fun c_27 => ?_) (fun c_27 => by exact absurd rfl c_27)
      refine r_iconst (v := 0) dX8_isAt_87 (by decide) ?_
      refine r_istore_4 dX8_isAt_88 ?_
      refine r_iincN_5 dX8_isAt_90 ?_
      refine r_goto 18 dX8_isAt_93 (by decide) ?_
      exact go false rfl
    | true =>
      have g2 := getD_256 hL (x := k)
      by_cases h1 : f + k < t
      · have hb := ok.2 (f + k) (by omega)
        by_cases h2 : L.getD k 0 = B (f + k)
        · by_cases h3 : B (f + k) = 0
          · skip
            refine r_iload_5 dX8_isAt_18 ?_
            refine r_bipush (v := nI 6) dX8_isAt_20 (by decide) ?_
            refine r_icmpN_ge 96 dX8_isAt_22 (by decide) (by omega) (by omega) (fun c_22 => by omega) (fun c_22 => ?_)
            refine r_iload_4 dX8_isAt_25 ?_
            refine r_if_eq 87 dX8_isAt_27 (by decide) (fun c_27 => by exact absurd c_27 (by decide)) (fun c_27 => ?_)
            refine r_aload_0 dX8_isAt_30 ?_
            refine r_getR (a := 78) dX8_isAt_31 fl_X8_25 rfl rfl ?_
            refine r_iload_1 dX8_isAt_34 ?_
            refine r_iload_5 dX8_isAt_35 ?_
            refine r_iadd dX8_isAt_37 ?_
            rw [nI_ad9]
            refine r_ialdN dX8_isAt_38 rfl (by omega) ?_
            rw [hs k (by omega)]
            refine r_iload_2 dX8_isAt_39 ?_
            refine r_iload_5 dX8_isAt_40 ?_
            refine r_iadd dX8_isAt_42 ?_
            rw [nI_ad9]
            refine r_iload_3 dX8_isAt_43 ?_
            refine r_icmpN_ge 59 dX8_isAt_44 (by decide) (by omega) (by omega) (fun c_44 => by omega) (fun c_44 => ?_)
            refine r_aload_0 dX8_isAt_47 ?_
            refine r_getR (a := 75) dX8_isAt_48 fl_X8_15 rfl rfl ?_
            refine r_iload_2 dX8_isAt_51 ?_
            refine r_iload_5 dX8_isAt_52 ?_
            refine r_iadd dX8_isAt_54 ?_
            rw [nI_ad9]
            refine r_ialdN dX8_isAt_55 rfl (by omega) ?_
            rw [mt (f + k) (by omega)]
            refine r_goto 60 dX8_isAt_56 (by decide) ?_
            refine r_icmp_ne 87 dX8_isAt_60 (by decide) (fun c_60 => by exact absurd ((nI_c g2 hb).mpr h2) c_60) (fun c_60 => ?_)
            refine r_iload_2 dX8_isAt_63 ?_
            refine r_iload_5 dX8_isAt_64 ?_
            refine r_iadd dX8_isAt_66 ?_
            rw [nI_ad9]
            refine r_iload_3 dX8_isAt_67 ?_
            refine r_icmpN_ge 83 dX8_isAt_68 (by decide) (by omega) (by omega) (fun c_68 => by omega) (fun c_68 => ?_)
            refine r_aload_0 dX8_isAt_71 ?_
            refine r_getR (a := 75) dX8_isAt_72 fl_X8_15 rfl rfl ?_
            refine r_iload_2 dX8_isAt_75 ?_
            refine r_iload_5 dX8_isAt_76 ?_
            refine r_iadd dX8_isAt_78 ?_
            rw [nI_ad9]
            refine r_ialdN dX8_isAt_79 rfl (by omega) ?_
            rw [mt (f + k) (by omega)]
            refine r_if_eq 87 dX8_isAt_80 (by decide) (fun c_80 => ?_) (fun c_80 => by exact absurd (by rw [h3]; rfl) c_80)
            refine r_iconst (v := 0) dX8_isAt_87 (by decide) ?_
            refine r_istore_4 dX8_isAt_88 ?_
            refine r_iincN_5 dX8_isAt_90 ?_
            refine r_goto 18 dX8_isAt_93 (by decide) ?_
            exact go false (by show (true && cX B f t L k) = false; rw [Bool.true_and]; unfold cX; rw [decide_eq_false (show ¬ t ≤ f + k by omega), decide_eq_false (show ¬ B (f + k) ≠ 0 from fun q => q h3)]; simp)
          · skip
            refine r_iload_5 dX8_isAt_18 ?_
            refine r_bipush (v := nI 6) dX8_isAt_20 (by decide) ?_
            refine r_icmpN_ge 96 dX8_isAt_22 (by decide) (by omega) (by omega) (fun c_22 => by omega) (fun c_22 => ?_)
            refine r_iload_4 dX8_isAt_25 ?_
            refine r_if_eq 87 dX8_isAt_27 (by decide) (fun c_27 => by exact absurd c_27 (by decide)) (fun c_27 => ?_)
            refine r_aload_0 dX8_isAt_30 ?_
            refine r_getR (a := 78) dX8_isAt_31 fl_X8_25 rfl rfl ?_
            refine r_iload_1 dX8_isAt_34 ?_
            refine r_iload_5 dX8_isAt_35 ?_
            refine r_iadd dX8_isAt_37 ?_
            rw [nI_ad9]
            refine r_ialdN dX8_isAt_38 rfl (by omega) ?_
            rw [hs k (by omega)]
            refine r_iload_2 dX8_isAt_39 ?_
            refine r_iload_5 dX8_isAt_40 ?_
            refine r_iadd dX8_isAt_42 ?_
            rw [nI_ad9]
            refine r_iload_3 dX8_isAt_43 ?_
            refine r_icmpN_ge 59 dX8_isAt_44 (by decide) (by omega) (by omega) (fun c_44 => by omega) (fun c_44 => ?_)
            refine r_aload_0 dX8_isAt_47 ?_
            refine r_getR (a := 75) dX8_isAt_48 fl_X8_15 rfl rfl ?_
            refine r_iload_2 dX8_isAt_51 ?_
            refine r_iload_5 dX8_isAt_52 ?_
            refine r_iadd dX8_isAt_54 ?_
            rw [nI_ad9]
            refine r_ialdN dX8_isAt_55 rfl (by omega) ?_
            rw [mt (f + k) (by omega)]
            refine r_goto 60 dX8_isAt_56 (by decide) ?_
            refine r_icmp_ne 87 dX8_isAt_60 (by decide) (fun c_60 => by exact absurd ((nI_c g2 hb).mpr h2) c_60) (fun c_60 => ?_)
            refine r_iload_2 dX8_isAt_63 ?_
            refine r_iload_5 dX8_isAt_64 ?_
            refine r_iadd dX8_isAt_66 ?_
            rw [nI_ad9]
            refine r_iload_3 dX8_isAt_67 ?_
            refine r_icmpN_ge 83 dX8_isAt_68 (by decide) (by omega) (by omega) (fun c_68 => by omega) (fun c_68 => ?_)
            refine r_aload_0 dX8_isAt_71 ?_
            refine r_getR (a := 75) dX8_isAt_72 fl_X8_15 rfl rfl ?_
            refine r_iload_2 dX8_isAt_75 ?_
            refine r_iload_5 dX8_isAt_76 ?_
            refine r_iadd dX8_isAt_78 ?_
            rw [nI_ad9]
            refine r_ialdN dX8_isAt_79 rfl (by omega) ?_
            rw [mt (f + k) (by omega)]
            refine r_if_eq 87 dX8_isAt_80 (by decide) (fun c_80 => by exact absurd ((nI_c hb (by decide)).mp c_80) h3) (fun c_80 => ?_)
            refine r_iconst (v := 1) dX8_isAt_83 (by decide) ?_
            refine r_goto 88 dX8_isAt_84 (by decide) ?_
            refine r_istore_4 dX8_isAt_88 ?_
            refine r_iincN_5 dX8_isAt_90 ?_
            refine r_goto 18 dX8_isAt_93 (by decide) ?_
            exact go true (by show (true && cX B f t L k) = true; rw [Bool.true_and]; unfold cX; rw [if_pos h1, decide_eq_true h2, decide_eq_true h3]; simp)
        · skip
          refine r_iload_5 dX8_isAt_18 ?_
          refine r_bipush (v := nI 6) dX8_isAt_20 (by decide) ?_
          refine r_icmpN_ge 96 dX8_isAt_22 (by decide) (by omega) (by omega) (fun c_22 => by omega) (fun c_22 => ?_)
          refine r_iload_4 dX8_isAt_25 ?_
          refine r_if_eq 87 dX8_isAt_27 (by decide) (fun c_27 => by exact absurd c_27 (by decide)) (fun c_27 => ?_)
          refine r_aload_0 dX8_isAt_30 ?_
          refine r_getR (a := 78) dX8_isAt_31 fl_X8_25 rfl rfl ?_
          refine r_iload_1 dX8_isAt_34 ?_
          refine r_iload_5 dX8_isAt_35 ?_
          refine r_iadd dX8_isAt_37 ?_
          rw [nI_ad9]
          refine r_ialdN dX8_isAt_38 rfl (by omega) ?_
          rw [hs k (by omega)]
          refine r_iload_2 dX8_isAt_39 ?_
          refine r_iload_5 dX8_isAt_40 ?_
          refine r_iadd dX8_isAt_42 ?_
          rw [nI_ad9]
          refine r_iload_3 dX8_isAt_43 ?_
          refine r_icmpN_ge 59 dX8_isAt_44 (by decide) (by omega) (by omega) (fun c_44 => by omega) (fun c_44 => ?_)
          refine r_aload_0 dX8_isAt_47 ?_
          refine r_getR (a := 75) dX8_isAt_48 fl_X8_15 rfl rfl ?_
          refine r_iload_2 dX8_isAt_51 ?_
          refine r_iload_5 dX8_isAt_52 ?_
          refine r_iadd dX8_isAt_54 ?_
          rw [nI_ad9]
          refine r_ialdN dX8_isAt_55 rfl (by omega) ?_
          rw [mt (f + k) (by omega)]
          refine r_goto 60 dX8_isAt_56 (by decide) ?_
          refine r_icmp_ne 87 dX8_isAt_60 (by decide) (fun c_60 => ?_) (fun c_60 => by exact absurd ((nI_c g2 hb).mp c_60) h2)
          refine r_iconst (v := 0) dX8_isAt_87 (by decide) ?_
          refine r_istore_4 dX8_isAt_88 ?_
          refine r_iincN_5 dX8_isAt_90 ?_
          refine r_goto 18 dX8_isAt_93 (by decide) ?_
          exact go false (by show (true && cX B f t L k) = false; rw [Bool.true_and]; unfold cX; rw [if_pos h1, decide_eq_false h2]; rfl)
      · by_cases h2 : L.getD k 0 = 0
        · skip
          refine r_iload_5 dX8_isAt_18 ?_
          refine r_bipush (v := nI 6) dX8_isAt_20 (by decide) ?_
          refine r_icmpN_ge 96 dX8_isAt_22 (by decide) (by omega) (by omega) (fun c_22 => by omega) (fun c_22 => ?_)
          refine r_iload_4 dX8_isAt_25 ?_
          refine r_if_eq 87 dX8_isAt_27 (by decide) (fun c_27 => by exact absurd c_27 (by decide)) (fun c_27 => ?_)
          refine r_aload_0 dX8_isAt_30 ?_
          refine r_getR (a := 78) dX8_isAt_31 fl_X8_25 rfl rfl ?_
          refine r_iload_1 dX8_isAt_34 ?_
          refine r_iload_5 dX8_isAt_35 ?_
          refine r_iadd dX8_isAt_37 ?_
          rw [nI_ad9]
          refine r_ialdN dX8_isAt_38 rfl (by omega) ?_
          rw [hs k (by omega)]
          refine r_iload_2 dX8_isAt_39 ?_
          refine r_iload_5 dX8_isAt_40 ?_
          refine r_iadd dX8_isAt_42 ?_
          rw [nI_ad9]
          refine r_iload_3 dX8_isAt_43 ?_
          refine r_icmpN_ge 59 dX8_isAt_44 (by decide) (by omega) (by omega) (fun c_44 => ?_) (fun c_44 => by omega)
          refine r_iconst (v := 0) dX8_isAt_59 (by decide) ?_
          refine r_icmp_ne 87 dX8_isAt_60 (by decide) (fun c_60 => by exact absurd (by rw [h2]; rfl) c_60) (fun c_60 => ?_)
          refine r_iload_2 dX8_isAt_63 ?_
          refine r_iload_5 dX8_isAt_64 ?_
          refine r_iadd dX8_isAt_66 ?_
          rw [nI_ad9]
          refine r_iload_3 dX8_isAt_67 ?_
          refine r_icmpN_ge 83 dX8_isAt_68 (by decide) (by omega) (by omega) (fun c_68 => ?_) (fun c_68 => by omega)
          refine r_iconst (v := 1) dX8_isAt_83 (by decide) ?_
          refine r_goto 88 dX8_isAt_84 (by decide) ?_
          refine r_istore_4 dX8_isAt_88 ?_
          refine r_iincN_5 dX8_isAt_90 ?_
          refine r_goto 18 dX8_isAt_93 (by decide) ?_
          exact go true (by show (true && cX B f t L k) = true; rw [Bool.true_and]; unfold cX; rw [if_neg h1, decide_eq_true h2, decide_eq_true (show t ≤ f + k by omega)]; rfl)
        · skip
          refine r_iload_5 dX8_isAt_18 ?_
          refine r_bipush (v := nI 6) dX8_isAt_20 (by decide) ?_
          refine r_icmpN_ge 96 dX8_isAt_22 (by decide) (by omega) (by omega) (fun c_22 => by omega) (fun c_22 => ?_)
          refine r_iload_4 dX8_isAt_25 ?_
          refine r_if_eq 87 dX8_isAt_27 (by decide) (fun c_27 => by exact absurd c_27 (by decide)) (fun c_27 => ?_)
          refine r_aload_0 dX8_isAt_30 ?_
          refine r_getR (a := 78) dX8_isAt_31 fl_X8_25 rfl rfl ?_
          refine r_iload_1 dX8_isAt_34 ?_
          refine r_iload_5 dX8_isAt_35 ?_
          refine r_iadd dX8_isAt_37 ?_
          rw [nI_ad9]
          refine r_ialdN dX8_isAt_38 rfl (by omega) ?_
          rw [hs k (by omega)]
          refine r_iload_2 dX8_isAt_39 ?_
          refine r_iload_5 dX8_isAt_40 ?_
          refine r_iadd dX8_isAt_42 ?_
          rw [nI_ad9]
          refine r_iload_3 dX8_isAt_43 ?_
          refine r_icmpN_ge 59 dX8_isAt_44 (by decide) (by omega) (by omega) (fun c_44 => ?_) (fun c_44 => by omega)
          refine r_iconst (v := 0) dX8_isAt_59 (by decide) ?_
          refine r_icmp_ne 87 dX8_isAt_60 (by decide) (fun c_60 => ?_) (fun c_60 => by exact absurd ((nI_c g2 (by decide)).mp c_60) h2)
          refine r_iconst (v := 0) dX8_isAt_87 (by decide) ?_
          refine r_istore_4 dX8_isAt_88 ?_
          refine r_iincN_5 dX8_isAt_90 ?_
          refine r_goto 18 dX8_isAt_93 (by decide) ?_
          exact go false (by show (true && cX B f t L k) = false; rw [Bool.true_and]; unfold cX; rw [if_neg h1, decide_eq_false h2]; rfl)
set_option maxRecDepth 100000 in
set_option maxHeartbeats 4000000 in
theorem q_isAt {h : PH} {n : Nat} {B : Nat → Nat} (ok : OKB n B) (mt : ∀ i, i < n → h.1 75 i = nI (B i)) {a f t : Nat} (ha : a + 6 ≤ 108) (ht : t ≤ n) (hft : f ≤ t) {L : List Nat} (hL : lets L) (l6 : L.length ≤ 6) (hs : ∀ k, k < 6 → h.1 78 (a + k) = nI (L.getD k 0)) : ConF mX8_isAt 1 [.ref 74, .int (nI a), .int (nI f), .int (nI t)] h (some (.int (b2i (wdL B f t = L)))) h := by
  have hn := ok.1
  have e : b2i (wdL B f t = L) = bI (aX B f t L 6 0 (decide (t - f ≤ 6))) := (b2i_c (aX_wd hL l6 hft)).symm
  rw [e]
  refine Con.mk (by decide) ?_
  show RT _ _ 0 [some (.ref 74), some (.int (nI a)), some (.int (nI f)), some (.int (nI t)), none, none] [] _ _
  by_cases h6 : t - f ≤ 6
  · refine r_iload_3 dX8_isAt_0 ?_
    refine r_iload_2 dX8_isAt_1 ?_
    refine r_isub dX8_isAt_2 ?_
    rw [nI_sb hft]
    refine r_bipush (v := nI 6) dX8_isAt_3 (by decide) ?_
    refine r_icmpN_gt 12 dX8_isAt_5 (by decide) (by omega) (by omega) (fun c_5 => by omega) (fun c_5 => ?_)
    refine r_iconst (v := 1) dX8_isAt_8 (by decide) ?_
    refine r_goto 13 dX8_isAt_9 (by decide) ?_
    refine r_istore_4 dX8_isAt_13 ?_
    refine r_iconst (v := nI 0) dX8_isAt_15 (by decide) ?_
    refine r_istore_5 dX8_isAt_16 ?_
    rw [decide_eq_true h6]
    exact isAt_loop ok mt ha ht hft hL hs 6 0 true (by omega)
  · refine r_iload_3 dX8_isAt_0 ?_
    refine r_iload_2 dX8_isAt_1 ?_
    refine r_isub dX8_isAt_2 ?_
    rw [nI_sb hft]
    refine r_bipush (v := nI 6) dX8_isAt_3 (by decide) ?_
    refine r_icmpN_gt 12 dX8_isAt_5 (by decide) (by omega) (by omega) (fun c_5 => ?_) (fun c_5 => by omega)
    refine r_iconst (v := 0) dX8_isAt_12 (by decide) ?_
    refine r_istore_4 dX8_isAt_13 ?_
    refine r_iconst (v := nI 0) dX8_isAt_15 (by decide) ?_
    refine r_istore_5 dX8_isAt_16 ?_
    rw [decide_eq_false h6]
    exact isAt_loop ok mt ha ht hft hL hs 6 0 false (by omega)
