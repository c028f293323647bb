/-! ===== the class reads a token ===== -/
theorem nI_sb {a b : Nat} (h : b ≤ a) : nI a - nI b = nI (a - b) := by
  have e : nI a = nI (a - b) + nI b := by rw [nI_ad9, show a - b + b = a by omega]
  rw [e]; exact Int32.add_sub_cancel _ _
def CB (h : PH) (n : Nat) (B : Nat → Nat) : Prop := h.1 2 1 = nI 1 ∧ h.1 2 2 = nI n ∧ (∀ i, i < n → h.1 1 i = sB (B i))
def OKB (n : Nat) (B : Nat → Nat) : Prop := n ≤ 600 ∧ ∀ i, i < n → B i < 256
def FK (S : Nat → Prop) (h h' : PH) : Prop := (∀ k, ¬ S k → h'.1 2 k = h.1 2 k) ∧ h'.2 = h.2 ∧ ∀ y, y ≠ 2 → h'.1 y = h.1 y
theorem FK.rf {S : Nat → Prop} {h : PH} : FK S h h := ⟨fun _ _ => rfl, rfl, fun _ _ => rfl⟩
theorem FK.tr {S : Nat → Prop} {h h' h'' : PH} (a : FK S h h') (b : FK S h' h'') : FK S h h'' := ⟨fun k hk => (b.1 k hk).trans (a.1 k hk), b.2.1.trans a.2.1, fun y hy => (b.2.2 y hy).trans (a.2.2 y hy)⟩
theorem FK.wk {S S' : Nat → Prop} {h h' : PH} (a : FK S h h') (q : ∀ k, S k → S' k) : FK S' h h' := ⟨fun k hk => a.1 k (fun z => hk (q k z)), a.2.1, a.2.2⟩
theorem fk_pI {S : Nat → Prop} {h h' : PH} (a : FK S h h') {k : Nat} {x : Int32} (hk : S k) : FK S h (pI h' 2 k x) := ⟨fun j hj => (pI_ne 2 j (Or.inr (fun q => hj (q ▸ hk)))).trans (a.1 j hj), a.2.1, fun y hy => (funext fun j => pI_ne y j (Or.inl hy)).trans (a.2.2 y hy)⟩
theorem CB.fk {S : Nat → Prop} {h h' : PH} {n : Nat} {B : Nat → Nat} (c : CB h n B) (f : FK S h h') (h1 : ¬ S 1) (h2 : ¬ S 2) : CB h' n B := ⟨(f.1 1 h1).trans c.1, (f.1 2 h2).trans c.2.1, fun i hi => by rw [f.2.2 1 (by decide)]; exact c.2.2 i hi⟩
set_option maxRecDepth 100000 in
set_option maxHeartbeats 4000000 in
theorem k_isLetter (h : PH) (x : Int32) : ConF mX3_isLetter 1 [.int x] h (some (.int (b2i ((97 : Int32) ≤ x ∧ x ≤ 122)))) h := by
  by_cases hp : (97 : Int32) ≤ x ∧ x ≤ 122
  · rw [b2i_t hp]
    refine Con.mk (by decide) ?_
    show RT _ _ 0 [some (.int x)] [] _ _
    refine r_iload_0 dX3_isLetter_0 ?_
    refine r_bipush (v := 97) dX3_isLetter_1 (by decide) ?_
    refine r_icmp_lt 16 dX3_isLetter_3 (by decide) (fun c_3 => by exact absurd c_3 (nlt_of_ge hp.1)) (fun c_3 => ?_)
    refine r_iload_0 dX3_isLetter_6 ?_
    refine r_bipush (v := 122) dX3_isLetter_7 (by decide) ?_
    refine r_icmp_gt 16 dX3_isLetter_9 (by decide) (fun c_9 => by exact absurd c_9 (nlt_of_ge hp.2)) (fun c_9 => ?_)
    refine r_iconst (v := 1) dX3_isLetter_12 (by decide) ?_
    refine r_goto 17 dX3_isLetter_13 (by decide) ?_
    refine r_zret dX3_isLetter_17 rfl rfl ?_
    exact ⟨rfl, rfl⟩
  · rw [b2i_f hp]
    refine Con.mk (by decide) ?_
    show RT _ _ 0 [some (.int x)] [] _ _
    refine r_iload_0 dX3_isLetter_0 ?_
    refine r_bipush (v := 97) dX3_isLetter_1 (by decide) ?_
    refine r_icmp_lt 16 dX3_isLetter_3 (by decide) (fun c_3 => ?_) (fun c_3 => ?_)
    · refine r_iconst (v := 0) dX3_isLetter_16 (by decide) ?_
      refine r_zret dX3_isLetter_17 rfl rfl ?_
      exact ⟨rfl, rfl⟩
    · refine r_iload_0 dX3_isLetter_6 ?_
      refine r_bipush (v := 122) dX3_isLetter_7 (by decide) ?_
      refine r_icmp_gt 16 dX3_isLetter_9 (by decide) (fun c_9 => ?_) (fun c_9 => ?_)
      · refine r_iconst (v := 0) dX3_isLetter_16 (by decide) ?_
        refine r_zret dX3_isLetter_17 rfl rfl ?_
        exact ⟨rfl, rfl⟩
      · exact absurd ⟨ge_of_nlt c_3, ge_of_nlt c_9⟩ hp

set_option maxRecDepth 100000 in
set_option maxHeartbeats 4000000 in
theorem k_isDigit (h : PH) (x : Int32) : ConF mX3_isDigit 1 [.int x] h (some (.int (b2i ((48 : Int32) ≤ x ∧ x ≤ 57)))) h := by
  by_cases hp : (48 : Int32) ≤ x ∧ x ≤ 57
  · rw [b2i_t hp]
    refine Con.mk (by decide) ?_
    show RT _ _ 0 [some (.int x)] [] _ _
    refine r_iload_0 dX3_isDigit_0 ?_
    refine r_bipush (v := 48) dX3_isDigit_1 (by decide) ?_
    refine r_icmp_lt 16 dX3_isDigit_3 (by decide) (fun c_3 => by exact absurd c_3 (nlt_of_ge hp.1)) (fun c_3 => ?_)
    refine r_iload_0 dX3_isDigit_6 ?_
    refine r_bipush (v := 57) dX3_isDigit_7 (by decide) ?_
    refine r_icmp_gt 16 dX3_isDigit_9 (by decide) (fun c_9 => by exact absurd c_9 (nlt_of_ge hp.2)) (fun c_9 => ?_)
    refine r_iconst (v := 1) dX3_isDigit_12 (by decide) ?_
    refine r_goto 17 dX3_isDigit_13 (by decide) ?_
    refine r_zret dX3_isDigit_17 rfl rfl ?_
    exact ⟨rfl, rfl⟩
  · rw [b2i_f hp]
    refine Con.mk (by decide) ?_
    show RT _ _ 0 [some (.int x)] [] _ _
    refine r_iload_0 dX3_isDigit_0 ?_
    refine r_bipush (v := 48) dX3_isDigit_1 (by decide) ?_
    refine r_icmp_lt 16 dX3_isDigit_3 (by decide) (fun c_3 => ?_) (fun c_3 => ?_)
    · refine r_iconst (v := 0) dX3_isDigit_16 (by decide) ?_
      refine r_zret dX3_isDigit_17 rfl rfl ?_
      exact ⟨rfl, rfl⟩
    · refine r_iload_0 dX3_isDigit_6 ?_
      refine r_bipush (v := 57) dX3_isDigit_7 (by decide) ?_
      refine r_icmp_gt 16 dX3_isDigit_9 (by decide) (fun c_9 => ?_) (fun c_9 => ?_)
      · refine r_iconst (v := 0) dX3_isDigit_16 (by decide) ?_
        refine r_zret dX3_isDigit_17 rfl rfl ?_
        exact ⟨rfl, rfl⟩
      · exact absurd ⟨ge_of_nlt c_3, ge_of_nlt c_9⟩ hp

set_option maxRecDepth 100000 in
set_option maxHeartbeats 4000000 in
theorem packed_loop {h : PH} {B : Nat → Nat} {s d : Nat} (hd : s + d ≤ 600) (hb : ∀ i, i < s + d → h.1 1 i = sB (B i)) : ∀ (m k : Nat), k + m = d → RT mX3_packed 1 5 [some (.ref 1), some (.int (nI s)), some (.int (nI (s + d))), some (.long (pkE B s k)), none, some (.int (nI (s + k)))] [] h (fun a h' => a = some (.long (pkE B s d)) ∧ h' = h) := by
  intro m
  induction m with
  | zero =>
    intro k hk
    have : k = d := by omega
    subst this
    refine r_iload_5 dX3_packed_5 ?_
    refine r_iload_2 dX3_packed_7 ?_
    refine r_icmpN_ge 28 dX3_packed_8 (by decide) (by omega) (by omega) (fun c_8 => ?_) (fun c_8 => by omega)
    refine r_lload_3 dX3_packed_28 ?_
    refine r_lret dX3_packed_29 rfl ?_
    exact ⟨rfl, rfl⟩
  | succ m ih =>
    intro k hk
    refine r_iload_5 dX3_packed_5 ?_
    refine r_iload_2 dX3_packed_7 ?_
    refine r_icmpN_ge 28 dX3_packed_8 (by decide) (by omega) (by omega) (fun c_8 => by omega) (fun c_8 => ?_)
    refine r_lload_3 dX3_packed_11 ?_
    refine r_bipush (v := 8) dX3_packed_12 (by decide) ?_
    refine r_lshl dX3_packed_14 ?_
    refine r_aload_0 dX3_packed_15 ?_
    refine r_iload_5 dX3_packed_16 ?_
    refine r_baldN dX3_packed_18 rfl (by omega) ?_
    rw [hb (s + k) (by omega)]
    refine r_i2l dX3_packed_19 ?_
    refine r_lor dX3_packed_20 ?_
    refine r_lstore_3 dX3_packed_21 ?_
    refine r_iincN_5 dX3_packed_22 ?_
    refine r_goto 5 dX3_packed_25 (by decide) ?_
    exact ih (k + 1) (by omega)
set_option maxRecDepth 100000 in
set_option maxHeartbeats 4000000 in
theorem k_packed {h : PH} {B : Nat → Nat} {s d : Nat} (hd : s + d ≤ 600) (hb : ∀ i, i < s + d → h.1 1 i = sB (B i)) : ConF mX3_packed 1 [.ref 1, .int (nI s), .int (nI (s + d))] h (some (.long (pkE B s d))) h := by
  refine Con.mk (by decide) ?_
  show RT _ _ 0 [some (.ref 1), some (.int (nI s)), some (.int (nI (s + d))), none, none, none] [] _ _
  refine r_lconst (v := 0) dX3_packed_0 (by decide) ?_
  refine r_lstore_3 dX3_packed_1 ?_
  refine r_iload_1 dX3_packed_2 ?_
  refine r_istore_5 dX3_packed_3 ?_
  exact packed_loop hd hb d 0 (by omega)

set_option maxRecDepth 100000 in
set_option maxHeartbeats 4000000 in
theorem rword_loop {n : Nat} {B : Nat → Nat} (ok : OKB n B) {h0 : PH} (cb : CB h0 n B) {Q : Option Value → PH → Prop} : ∀ (m q : Nat) (h : PH), q + m = n → h.1 2 3 = nI q → FK (fun k => k = 3) h0 h → (∀ h', h'.1 2 3 = nI (runS isL B m q) → FK (fun k => k = 3) h0 h' → RT mX3_readWord 2 39 [some (.ref 2)] [] h' Q) → RT mX3_readWord 2 0 [some (.ref 2)] [] h Q := by
  have hn := ok.1
  intro m
  induction m with
  | zero =>
    intro q h hq e3 fr K
    have c := cb.fk fr (by decide) (by decide)
    refine r_aload_0 dX3_readWord_0 ?_
    refine r_getI dX3_readWord_1 fl_X3_26 rfl ?_
    rw [e3]
    refine r_aload_0 dX3_readWord_4 ?_
    refine r_getI dX3_readWord_5 fl_X3_22 rfl ?_
    rw [c.2.1]
    refine r_icmpN_ge 39 dX3_readWord_8 (by decide) (by omega) (by omega) (fun c_8 => ?_) (fun c_8 => by omega)
    exact K h e3 fr
  | succ m ih =>
    intro q h hq e3 fr K
    have c := cb.fk fr (by decide) (by decide)
    have hb := ok.2 q (by omega)
    unfold runS at K
    by_cases hl : isL (B q) = true
    · rw [if_pos hl] at K
      refine r_aload_0 dX3_readWord_0 ?_
      refine r_getI dX3_readWord_1 fl_X3_26 rfl ?_
      rw [e3]
      refine r_aload_0 dX3_readWord_4 ?_
      refine r_getI dX3_readWord_5 fl_X3_22 rfl ?_
      rw [c.2.1]
      refine r_icmpN_ge 39 dX3_readWord_8 (by decide) (by omega) (by omega) (fun c_8 => by omega) (fun c_8 => ?_)
      refine r_aload_0 dX3_readWord_11 ?_
      refine r_getD (a := 1) dX3_readWord_12 fl_X3_18 rfl (by rw [c.1]; rfl) ?_
      refine r_aload_0 dX3_readWord_15 ?_
      refine r_getI dX3_readWord_16 fl_X3_26 rfl ?_
      rw [e3]
      refine r_baldN dX3_readWord_19 rfl (by omega) ?_
      rw [c.2.2 q (by omega)]
      refine r_cS1 mX3_isLetter dX3_readWord_20 ml_X3_144 mo_X3_isLetter (k_isLetter _ _) (by decide) ?_
      rw [b2i_c (sB_L hb), b2i_t hl]
      refine r_if_eq 39 dX3_readWord_23 (by decide) (fun c_23 => by exact absurd c_23 (by decide)) (fun c_23 => ?_)
      refine r_aload_0 dX3_readWord_26 ?_
      refine r_dupr dX3_readWord_27 ?_
      refine r_getI dX3_readWord_28 fl_X3_26 rfl ?_
      rw [e3]
      refine r_iconst (v := nI 1) dX3_readWord_31 (by decide) ?_
      refine r_iadd dX3_readWord_32 ?_
      rw [nI_ad9]
      refine r_putI dX3_readWord_33 fl_X3_26 rfl rfl rfl ?_
      refine r_goto 0 dX3_readWord_36 (by decide) ?_
      exact ih (q + 1) _ (by omega) pI_eq (fk_pI fr rfl) K
    · rw [if_neg hl] at K
      refine r_aload_0 dX3_readWord_0 ?_
      refine r_getI dX3_readWord_1 fl_X3_26 rfl ?_
      rw [e3]
      refine r_aload_0 dX3_readWord_4 ?_
      refine r_getI dX3_readWord_5 fl_X3_22 rfl ?_
      rw [c.2.1]
      refine r_icmpN_ge 39 dX3_readWord_8 (by decide) (by omega) (by omega) (fun c_8 => by omega) (fun c_8 => ?_)
      refine r_aload_0 dX3_readWord_11 ?_
      refine r_getD (a := 1) dX3_readWord_12 fl_X3_18 rfl (by rw [c.1]; rfl) ?_
      refine r_aload_0 dX3_readWord_15 ?_
      refine r_getI dX3_readWord_16 fl_X3_26 rfl ?_
      rw [e3]
      refine r_baldN dX3_readWord_19 rfl (by omega) ?_
      rw [c.2.2 q (by omega)]
      refine r_cS1 mX3_isLetter dX3_readWord_20 ml_X3_144 mo_X3_isLetter (k_isLetter _ _) (by decide) ?_
      rw [b2i_c (sB_L hb), b2i_f hl]
      refine r_if_eq 39 dX3_readWord_23 (by decide) (fun c_23 => ?_) (fun c_23 => by exact absurd rfl c_23)
      exact K h e3 fr
set_option maxRecDepth 100000 in
set_option maxHeartbeats 4000000 in
theorem k_readWord {n : Nat} {B : Nat → Nat} (ok : OKB n B) {h : PH} (cb : CB h n B) {s : Nat} (hs : s ≤ n) (e3 : h.1 2 3 = nI s) (e5 : h.1 2 5 = nI s) : Con mX3_readWord 2 [.ref 2] h (fun a h' => a = none ∧ (h'.1 2 6 = nI (if runS isL B (n - s) s - s ≤ 6 then 1 else 5) ∧ h'.1 2 3 = nI (runS isL B (n - s) s) ∧ h'.2 2 7 = pkE B s (runS isL B (n - s) s - s) ∧ (∀ k, k ≠ 3 → k ≠ 6 → h'.1 2 k = h.1 2 k) ∧ h'.2 2 9 = h.2 2 9 ∧ Fr (fun y => y = 2) h h')) := by
  have hn := ok.1
  have rb := runS_b (p := isL) (B := B) (n - s) s
  refine Con.mk (by decide) ?_
  show RT _ _ 0 [some (.ref 2)] [] _ _
  refine rword_loop ok cb (n - s) s h (by omega) e3 FK.rf (fun h1 g3 f1 => ?_)
  have c1 := cb.fk f1 (by decide) (by decide)
  have g5 : h1.1 2 5 = nI s := (f1.1 5 (by decide)).trans e5
  obtain ⟨d, hd⟩ : ∃ d, runS isL B (n - s) s = s + d := ⟨runS isL B (n - s) s - s, by omega⟩
  rw [hd] at g3 rb ⊢
  rw [show s + d - s = d by omega]
  by_cases h6 : d ≤ 6
  · refine r_aload_0 dX3_readWord_39 ?_
    refine r_aload_0 dX3_readWord_40 ?_
    refine r_getI dX3_readWord_41 fl_X3_26 rfl ?_
    rw [g3]
    refine r_aload_0 dX3_readWord_44 ?_
    refine r_getI dX3_readWord_45 fl_X3_141 rfl ?_
    rw [g5]
    refine r_isub dX3_readWord_48 ?_
    rw [nI_sb (by omega), show s + d - s = d by omega]
    refine r_bipush (v := nI 6) dX3_readWord_49 (by decide) ?_
    refine r_icmpN_gt 58 dX3_readWord_51 (by decide) (by omega) (by omega) (fun c_51 => by omega) (fun c_51 => ?_)
    refine r_iconst (v := nI 1) dX3_readWord_54 (by decide) ?_
    refine r_goto 59 dX3_readWord_55 (by decide) ?_
    refine r_putI dX3_readWord_59 fl_X3_42 rfl rfl rfl ?_
    refine r_aload_0 dX3_readWord_62 ?_
    refine r_aload_0 dX3_readWord_63 ?_
    refine r_getD (a := 1) dX3_readWord_64 fl_X3_18 rfl (by rw [(pI_ne 2 1 (Or.inr (by decide))), c1.1]; rfl) ?_
    refine r_aload_0 dX3_readWord_67 ?_
    refine r_getI dX3_readWord_68 fl_X3_141 rfl ?_
    rw [show (pI h1 2 6 (nI 1)).1 2 5 = nI s from (pI_ne 2 5 (Or.inr (by decide))).trans g5]
    refine r_aload_0 dX3_readWord_71 ?_
    refine r_getI dX3_readWord_72 fl_X3_26 rfl ?_
    rw [show (pI h1 2 6 (nI 1)).1 2 3 = nI (s + d) from (pI_ne 2 3 (Or.inr (by decide))).trans g3]
    refine r_cS3 mX3_packed dX3_readWord_75 ml_X3_156 mo_X3_packed (k_packed (h := pI h1 2 6 (nI 1)) (B := B) (s := s) (d := d) (by omega) (fun i hi => by rw [pI_ne 1 i (Or.inl (by decide))]; exact c1.2.2 i (by omega))) (by decide) ?_
    refine r_putL dX3_readWord_78 fl_X3_88 rfl rfl rfl ?_
    refine r_vret dX3_readWord_81 rfl ?_
    refine ⟨rfl, ?_, ?_, pL_eq, fun k h3 h6 => ?_, ?_, ?_⟩
    · show (pI h1 2 6 (nI 1)).1 2 6 = _
      rw [pI_eq, if_pos h6]
    · exact (show (pI h1 2 6 (nI 1)).1 2 3 = _ from (pI_ne 2 3 (Or.inr (by decide))).trans g3)
    · exact (show (pI h1 2 6 (nI 1)).1 2 k = _ from (pI_ne 2 k (Or.inr h6)).trans (f1.1 k h3))
    · rw [pL_ne 2 9 (Or.inr (by decide))]; exact congrFun (congrFun f1.2.1 2) 9
    · intro y hy
      refine ⟨(funext fun j => pI_ne y j (Or.inl hy)).trans (f1.2.2 y hy), ?_⟩
      refine (funext fun j => pL_ne y j (Or.inl hy)).trans ?_
      exact congrFun f1.2.1 y
  · refine r_aload_0 dX3_readWord_39 ?_
    refine r_aload_0 dX3_readWord_40 ?_
    refine r_getI dX3_readWord_41 fl_X3_26 rfl ?_
    rw [g3]
    refine r_aload_0 dX3_readWord_44 ?_
    refine r_getI dX3_readWord_45 fl_X3_141 rfl ?_
    rw [g5]
    refine r_isub dX3_readWord_48 ?_
    rw [nI_sb (by omega), show s + d - s = d by omega]
    refine r_bipush (v := nI 6) dX3_readWord_49 (by decide) ?_
    refine r_icmpN_gt 58 dX3_readWord_51 (by decide) (by omega) (by omega) (fun c_51 => ?_) (fun c_51 => by omega)
    refine r_iconst (v := nI 5) dX3_readWord_58 (by decide) ?_
    refine r_putI dX3_readWord_59 fl_X3_42 rfl rfl rfl ?_
    refine r_aload_0 dX3_readWord_62 ?_
    refine r_aload_0 dX3_readWord_63 ?_
    refine r_getD (a := 1) dX3_readWord_64 fl_X3_18 rfl (by rw [(pI_ne 2 1 (Or.inr (by decide))), c1.1]; rfl) ?_
    refine r_aload_0 dX3_readWord_67 ?_
    refine r_getI dX3_readWord_68 fl_X3_141 rfl ?_
    rw [show (pI h1 2 6 (nI 5)).1 2 5 = nI s from (pI_ne 2 5 (Or.inr (by decide))).trans g5]
    refine r_aload_0 dX3_readWord_71 ?_
    refine r_getI dX3_readWord_72 fl_X3_26 rfl ?_
    rw [show (pI h1 2 6 (nI 5)).1 2 3 = nI (s + d) from (pI_ne 2 3 (Or.inr (by decide))).trans g3]
    refine r_cS3 mX3_packed dX3_readWord_75 ml_X3_156 mo_X3_packed (k_packed (h := pI h1 2 6 (nI 5)) (B := B) (s := s) (d := d) (by omega) (fun i hi => by rw [pI_ne 1 i (Or.inl (by decide))]; exact c1.2.2 i (by omega))) (by decide) ?_
    refine r_putL dX3_readWord_78 fl_X3_88 rfl rfl rfl ?_
    refine r_vret dX3_readWord_81 rfl ?_
    refine ⟨rfl, ?_, ?_, pL_eq, fun k h3 h6 => ?_, ?_, ?_⟩
    · show (pI h1 2 6 (nI 5)).1 2 6 = _
      rw [pI_eq, if_neg h6]
    · exact (show (pI h1 2 6 (nI 5)).1 2 3 = _ from (pI_ne 2 3 (Or.inr (by decide))).trans g3)
    · exact (show (pI h1 2 6 (nI 5)).1 2 k = _ from (pI_ne 2 k (Or.inr h6)).trans (f1.1 k h3))
    · rw [pL_ne 2 9 (Or.inr (by decide))]; exact congrFun (congrFun f1.2.1 2) 9
    · intro y hy
      refine ⟨(funext fun j => pI_ne y j (Or.inl hy)).trans (f1.2.2 y hy), ?_⟩
      refine (funext fun j => pL_ne y j (Or.inl hy)).trans ?_
      exact congrFun f1.2.1 y
set_option maxRecDepth 100000 in
set_option maxHeartbeats 4000000 in
theorem rwhole_loop {n : Nat} {B : Nat → Nat} (ok : OKB n B) {s : Nat} {h0 : PH} (cb : CB h0 n B) {Q : Option Value → PH → Prop} : ∀ (m d : Nat) (h : PH), s + d + m = n → h.1 2 3 = nI (s + d) → h.1 2 8 = wvE B s d → FK (fun k => k = 3 ∨ k = 8) h0 h → (∀ h' d', s + d' = runS isD B m (s + d) → h'.1 2 3 = nI (s + d') → h'.1 2 8 = wvE B s d' → FK (fun k => k = 3 ∨ k = 8) h0 h' → RT mX3_readWhole 2 68 [some (.ref 2)] [] h' Q) → RT mX3_readWhole 2 5 [some (.ref 2)] [] h Q := by
  have hn := ok.1
  intro m
  induction m with
  | zero =>
    intro d h hq e3 e8 fr K
    have c := cb.fk fr (by decide) (by decide)
    refine r_aload_0 dX3_readWhole_5 ?_
    refine r_getI dX3_readWhole_6 fl_X3_26 rfl ?_
    rw [e3]
    refine r_aload_0 dX3_readWhole_9 ?_
    refine r_getI dX3_readWhole_10 fl_X3_22 rfl ?_
    rw [c.2.1]
    refine r_icmpN_ge 68 dX3_readWhole_13 (by decide) (by omega) (by omega) (fun c_13 => ?_) (fun c_13 => by omega)
    exact K h d rfl e3 e8 fr
  | succ m ih =>
    intro d h hq e3 e8 fr K
    have c := cb.fk fr (by decide) (by decide)
    have hb := ok.2 (s + d) (by omega)
    unfold runS at K
    by_cases hl : isD (B (s + d)) = true
    · rw [if_pos hl] at K
      have e3' : ∀ x, (pI h 2 8 x).1 2 3 = nI (s + d) := fun x => (pI_ne 2 3 (Or.inr (by decide))).trans e3
      refine r_aload_0 dX3_readWhole_5 ?_
      refine r_getI dX3_readWhole_6 fl_X3_26 rfl ?_
      rw [e3]
      refine r_aload_0 dX3_readWhole_9 ?_
      refine r_getI dX3_readWhole_10 fl_X3_22 rfl ?_
      rw [c.2.1]
      refine r_icmpN_ge 68 dX3_readWhole_13 (by decide) (by omega) (by omega) (fun c_13 => by omega) (fun c_13 => ?_)
      refine r_aload_0 dX3_readWhole_16 ?_
      refine r_getD (a := 1) dX3_readWhole_17 fl_X3_18 rfl (by rw [c.1]; rfl) ?_
      refine r_aload_0 dX3_readWhole_20 ?_
      refine r_getI dX3_readWhole_21 fl_X3_26 rfl ?_
      rw [e3]
      refine r_baldN dX3_readWhole_24 rfl (by omega) ?_
      rw [c.2.2 (s + d) (by omega)]
      refine r_cS1 mX3_isDigit dX3_readWhole_25 ml_X3_150 mo_X3_isDigit (k_isDigit _ _) (by decide) ?_
      rw [b2i_c (sB_D hb), b2i_t hl]
      refine r_if_eq 68 dX3_readWhole_28 (by decide) (fun c_28 => by exact absurd c_28 (by decide)) (fun c_28 => ?_)
      refine r_aload_0 dX3_readWhole_31 ?_
      refine r_bipush (v := 10) dX3_readWhole_32 (by decide) ?_
      refine r_aload_0 dX3_readWhole_34 ?_
      refine r_getI dX3_readWhole_35 fl_X3_74 rfl ?_
      rw [e8]
      refine r_imul dX3_readWhole_38 ?_
      refine r_aload_0 dX3_readWhole_39 ?_
      refine r_getD (a := 1) dX3_readWhole_40 fl_X3_18 rfl (by rw [c.1]; rfl) ?_
      refine r_aload_0 dX3_readWhole_43 ?_
      refine r_getI dX3_readWhole_44 fl_X3_26 rfl ?_
      rw [e3]
      refine r_baldN dX3_readWhole_47 rfl (by omega) ?_
      rw [c.2.2 (s + d) (by omega), sB_d hl]
      refine r_iadd dX3_readWhole_48 ?_
      refine r_bipush (v := 48) dX3_readWhole_49 (by decide) ?_
      refine r_isub dX3_readWhole_51 ?_
      refine r_putI dX3_readWhole_52 fl_X3_74 rfl rfl rfl ?_
      refine r_aload_0 dX3_readWhole_55 ?_
      refine r_dupr dX3_readWhole_56 ?_
      refine r_getI dX3_readWhole_57 fl_X3_26 rfl ?_
      rw [e3']
      refine r_iconst (v := nI 1) dX3_readWhole_60 (by decide) ?_
      refine r_iadd dX3_readWhole_61 ?_
      rw [nI_ad9]
      refine r_putI dX3_readWhole_62 fl_X3_26 rfl rfl rfl ?_
      refine r_goto 5 dX3_readWhole_65 (by decide) ?_
      refine ih (d + 1) _ (by omega) pI_eq ?_ (fk_pI (fk_pI fr (Or.inr rfl)) (Or.inl rfl)) K
      rw [pI_ne 2 8 (Or.inr (by decide)), pI_eq]; rfl
    · rw [if_neg hl] at K
      refine r_aload_0 dX3_readWhole_5 ?_
      refine r_getI dX3_readWhole_6 fl_X3_26 rfl ?_
      rw [e3]
      refine r_aload_0 dX3_readWhole_9 ?_
      refine r_getI dX3_readWhole_10 fl_X3_22 rfl ?_
      rw [c.2.1]
      refine r_icmpN_ge 68 dX3_readWhole_13 (by decide) (by omega) (by omega) (fun c_13 => by omega) (fun c_13 => ?_)
      refine r_aload_0 dX3_readWhole_16 ?_
      refine r_getD (a := 1) dX3_readWhole_17 fl_X3_18 rfl (by rw [c.1]; rfl) ?_
      refine r_aload_0 dX3_readWhole_20 ?_
      refine r_getI dX3_readWhole_21 fl_X3_26 rfl ?_
      rw [e3]
      refine r_baldN dX3_readWhole_24 rfl (by omega) ?_
      rw [c.2.2 (s + d) (by omega)]
      refine r_cS1 mX3_isDigit dX3_readWhole_25 ml_X3_150 mo_X3_isDigit (k_isDigit _ _) (by decide) ?_
      rw [b2i_c (sB_D hb), b2i_f hl]
      refine r_if_eq 68 dX3_readWhole_28 (by decide) (fun c_28 => ?_) (fun c_28 => by exact absurd rfl c_28)
      exact K h d rfl e3 e8 fr
set_option maxRecDepth 100000 in
set_option maxHeartbeats 4000000 in
theorem k_readWhole {n : Nat} {B : Nat → Nat} (ok : OKB n B) {h : PH} (cb : CB h n B) {s : Nat} (hs : s ≤ n) (e3 : h.1 2 3 = nI s) (e5 : h.1 2 5 = nI s) : Con mX3_readWhole 2 [.ref 2] h (fun a h' => a = none ∧ (h'.1 2 6 = nI (if runS isD B (n - s) s - s ≤ 3 then 2 else 5) ∧ h'.1 2 3 = nI (runS isD B (n - s) s) ∧ h'.1 2 8 = wvE B s (runS isD B (n - s) s - s) ∧ (∀ k, k ≠ 3 → k ≠ 6 → k ≠ 8 → h'.1 2 k = h.1 2 k) ∧ h'.2 2 9 = h.2 2 9 ∧ Fr (fun y => y = 2) h h')) := by
  have hn := ok.1
  have rb := runS_b (p := isD) (B := B) (n - s) s
  refine Con.mk (by decide) ?_
  show RT _ _ 0 [some (.ref 2)] [] _ _
  refine r_aload_0 dX3_readWhole_0 ?_
  refine r_iconst (v := 0) dX3_readWhole_1 (by decide) ?_
  refine r_putI dX3_readWhole_2 fl_X3_74 rfl rfl rfl ?_
  refine rwhole_loop ok (s := s) (h0 := pI h 2 8 0) (cb.fk (S := fun k => k = 8) (fk_pI FK.rf rfl) (by decide) (by decide)) (n - s) 0 _ (by omega) ((pI_ne 2 3 (Or.inr (by decide))).trans e3) pI_eq FK.rf (fun h1 d hd g3 g8 f1 => ?_)
  have hd : runS isD B (n - s) s = s + d := hd.symm
  have g5 : h1.1 2 5 = nI s := (f1.1 5 (by decide)).trans ((pI_ne 2 5 (Or.inr (by decide))).trans e5)
  rw [hd] at rb ⊢
  rw [show s + d - s = d by omega]
  by_cases h6 : d ≤ 3
  · refine r_aload_0 dX3_readWhole_68 ?_
    refine r_aload_0 dX3_readWhole_69 ?_
    refine r_getI dX3_readWhole_70 fl_X3_26 rfl ?_
    rw [g3]
    refine r_aload_0 dX3_readWhole_73 ?_
    refine r_getI dX3_readWhole_74 fl_X3_141 rfl ?_
    rw [g5]
    refine r_isub dX3_readWhole_77 ?_
    rw [nI_sb (by omega), show s + d - s = d by omega]
    refine r_iconst (v := nI 3) dX3_readWhole_78 (by decide) ?_
    refine r_icmpN_gt 86 dX3_readWhole_79 (by decide) (by omega) (by omega) (fun c_79 => by omega) (fun c_79 => ?_)
    refine r_iconst (v := nI 2) dX3_readWhole_82 (by decide) ?_
    refine r_goto 87 dX3_readWhole_83 (by decide) ?_
    refine r_putI dX3_readWhole_87 fl_X3_42 rfl rfl rfl ?_
    refine r_vret dX3_readWhole_90 rfl ?_
    refine ⟨rfl, by rw [pI_eq, if_pos h6], (pI_ne 2 3 (Or.inr (by decide))).trans g3, (pI_ne 2 8 (Or.inr (by decide))).trans g8, fun k h3 h6 h8 => ?_, ?_, ?_⟩
    · exact (pI_ne 2 k (Or.inr h6)).trans ((f1.1 k (by omega)).trans (pI_ne 2 k (Or.inr h8)))
    · exact congrFun (congrFun f1.2.1 2) 9
    · intro y hy
      exact ⟨(funext fun j => pI_ne y j (Or.inl hy)).trans ((f1.2.2 y hy).trans (funext fun j => pI_ne y j (Or.inl hy))), congrFun f1.2.1 y⟩
  · refine r_aload_0 dX3_readWhole_68 ?_
    refine r_aload_0 dX3_readWhole_69 ?_
    refine r_getI dX3_readWhole_70 fl_X3_26 rfl ?_
    rw [g3]
    refine r_aload_0 dX3_readWhole_73 ?_
    refine r_getI dX3_readWhole_74 fl_X3_141 rfl ?_
    rw [g5]
    refine r_isub dX3_readWhole_77 ?_
    rw [nI_sb (by omega), show s + d - s = d by omega]
    refine r_iconst (v := nI 3) dX3_readWhole_78 (by decide) ?_
    refine r_icmpN_gt 86 dX3_readWhole_79 (by decide) (by omega) (by omega) (fun c_79 => ?_) (fun c_79 => by omega)
    refine r_iconst (v := nI 5) dX3_readWhole_86 (by decide) ?_
    refine r_putI dX3_readWhole_87 fl_X3_42 rfl rfl rfl ?_
    refine r_vret dX3_readWhole_90 rfl ?_
    refine ⟨rfl, by rw [pI_eq, if_neg h6], (pI_ne 2 3 (Or.inr (by decide))).trans g3, (pI_ne 2 8 (Or.inr (by decide))).trans g8, fun k h3 h6 h8 => ?_, ?_, ?_⟩
    · exact (pI_ne 2 k (Or.inr h6)).trans ((f1.1 k (by omega)).trans (pI_ne 2 k (Or.inr h8)))
    · exact congrFun (congrFun f1.2.1 2) 9
    · intro y hy
      exact ⟨(funext fun j => pI_ne y j (Or.inl hy)).trans ((f1.2.2 y hy).trans (funext fun j => pI_ne y j (Or.inl hy))), congrFun f1.2.1 y⟩

