/-! ===== both: named ===== -/
def trB (B : Nat → Nat) (s : Nat) : Nat → Nat
  | 0 => s
  | d + 1 => if B (s + d) = 32 then trB B s d else s + d + 1
theorem trB_b {B : Nat → Nat} {s : Nat} : ∀ d, s ≤ trB B s d ∧ trB B s d ≤ s + d := by
  intro d
  induction d with
  | zero => exact ⟨Nat.le_refl _, Nat.le_refl _⟩
  | succ d ih =>
    unfold trB
    split
    · omega
    · omega
def nB (B : Nat → Nat) (n : Nat) : Nat := runS isSp B n 0
def nE (B : Nat → Nat) (n : Nat) : Nat := trB B (nB B n) (n - nB B n)
def nW (B : Nat → Nat) (n : Nat) : List Nat := wdL B (nB B n) (nE B n)
theorem nB_le {B : Nat → Nat} {n : Nat} : nB B n ≤ n ∧ nB B n ≤ nE B n ∧ nE B n ≤ n := by
  have a := runS_b (p := isSp) (B := B) n 0
  have b := trB_b (B := B) (s := nB B n) (n - nB B n)
  unfold nE
  unfold nB at *
  omega
def allF (B : Nat → Nat) : Nat → Nat → Bool
  | 0, _ => true
  | m + 1, i => isL (B i) && allF B m (i + 1)
theorem allF_iff {B : Nat → Nat} : ∀ m i, allF B m i = true ↔ ∀ x, i ≤ x → x < i + m → isL (B x) = true := by
  intro m
  induction m with
  | zero => intro i; exact ⟨fun _ x h1 h2 => by omega, fun _ => rfl⟩
  | succ m ih =>
    intro i
    show (isL (B i) && allF B m (i + 1)) = true ↔ _
    rw [Bool.and_eq_true, ih]
    refine ⟨fun h x h1 h2 => ?_, fun h => ⟨h i (by omega) (by omega), fun x h1 h2 => h x (by omega) (by omega)⟩⟩
    by_cases q : x = i
    · rw [q]; exact h.1
    · exact h.2 x (by omega) (by omega)
def onW (B : Nat → Nat) (n : Nat) : Int64 := if allF B (nE B n - nB B n) (nB B n) = true ∧ nE B n - nB B n ≤ 6 then lN (packN (nW B n)) else 0
theorem packN_pos {L : List Nat} (hL : lets L) (h : 1 ≤ L.length) : 0 < packN L := by
  rcases nil_or_app L with e | ⟨M, c, e⟩
  · rw [e] at h; simp at h
  · subst e; rw [packN_app]; have := hL c (by simp); omega
theorem on_eq {B : Nat → Nat} {n : Nat} {t : NT} {nm : NMS} (no : nmOK t nm) : ∀ j, j < NT.J t → (lN (packN (nm j)) = onW B n ↔ nm j = nW B n) := fun j hj => by
  obtain ⟨n1, n6, nl⟩ := no j hj
  have le := nB_le (B := B) (n := n)
  by_cases h : allF B (nE B n - nB B n) (nB B n) = true ∧ nE B n - nB B n ≤ 6
  · unfold onW; rw [if_pos h]
    have wl : lets (nW B n) := wdL_lets (fun i h1 h2 => (allF_iff _ _).mp h.1 i h1 (by omega))
    exact word_eq nl wl n6 (by unfold nW; rw [wdL_len]; exact h.2)
  · unfold onW; rw [if_neg h]
    refine ⟨fun q => ?_, fun q => absurd ⟨(allF_iff _ _).mpr (fun x h1 h2 => ?_), ?_⟩ h⟩
    · exfalso
      have p := packN_pos nl n1
      have l := lets_lt _ nl
      have l6 : 256 ^ (nm j).length ≤ 256 ^ 6 := Nat.pow_le_pow_right (by decide) n6
      have := lN_inj (a := packN (nm j)) (b := 0) (by omega) (by decide) q
      omega
    · have g := wdL_get (B := B) (s := nB B n) (e := nE B n) (i := x - nB B n) (by omega)
      rw [show nB B n + (x - nB B n) = x by omega] at g
      have e : (wdL B (nB B n) (nE B n)).getD (x - nB B n) 0 = (nm j).getD (x - nB B n) 0 := by rw [q]; rfl
      have hl : (nm j).length = nE B n - nB B n := by rw [q]; unfold nW; rw [wdL_len]
      have r := getD_in nl (x := x - nB B n) (by omega)
      rw [← g, e]
      unfold isL
      rw [decide_eq_true r.1, decide_eq_true r.2]; rfl
    · have hl : (nm j).length = nE B n - nB B n := by rw [q]; unfold nW; rw [wdL_len]
      omega
set_option maxRecDepth 100000 in
set_option maxHeartbeats 4000000 in
theorem ow1 {h : PH} {n : Nat} {B : Nat → Nat} (ok : OKB n B) (hb : ∀ i, i < n → h.1 1 i = sB (B i)) {Q : Option Value → PH → Prop} : ∀ (m q : Nat), q + m = n → RT mX3_onlyWord 2 23 [some (.ref 1), some (.int (nI n)), some (.int (nI (runS isSp B m q))), some (.int (nI n)), none] [] h Q → RT mX3_onlyWord 2 4 [some (.ref 1), some (.int (nI n)), some (.int (nI q)), some (.int (nI n)), none] [] h Q := by
  have hn := ok.1
  intro m
  induction m with
  | zero => 
    intro q hq K
    refine r_iload_2 dX3_onlyWord_4 ?_
    refine r_iload_3 dX3_onlyWord_5 ?_
    refine r_icmpN_ge 23 dX3_onlyWord_6 (by decide) (by omega) (by omega) (fun c_6 => ?_) (fun c_6 => by omega)
    exact K
  | succ m ih =>
    intro q hq K
    have hc := (sB_c (ok.2 q (by omega))).1
    unfold runS at K
    by_cases hl : B q = 32
    · rw [if_pos (by unfold isSp; exact decide_eq_true hl)] at K
      refine r_iload_2 dX3_onlyWord_4 ?_
      refine r_iload_3 dX3_onlyWord_5 ?_
      refine r_icmpN_ge 23 dX3_onlyWord_6 (by decide) (by omega) (by omega) (fun c_6 => by omega) (fun c_6 => ?_)
      refine r_aload_0 dX3_onlyWord_9 ?_
      refine r_iload_2 dX3_onlyWord_10 ?_
      refine r_baldN dX3_onlyWord_11 rfl (by omega) ?_
      rw [hb q (by omega)]
      refine r_bipush (v := 32) dX3_onlyWord_12 (by decide) ?_
      refine r_icmp_ne 23 dX3_onlyWord_14 (by decide) (fun c_14 => by exact absurd (hc.mpr hl) c_14) (fun c_14 => ?_)
      refine r_iincN_2 dX3_onlyWord_17 ?_
      refine r_goto 4 dX3_onlyWord_20 (by decide) ?_
      exact ih (q + 1) (by omega) K
    · rw [if_neg (by unfold isSp; simp [hl])] at K
      refine r_iload_2 dX3_onlyWord_4 ?_
      refine r_iload_3 dX3_onlyWord_5 ?_
      refine r_icmpN_ge 23 dX3_onlyWord_6 (by decide) (by omega) (by omega) (fun c_6 => by omega) (fun c_6 => ?_)
      refine r_aload_0 dX3_onlyWord_9 ?_
      refine r_iload_2 dX3_onlyWord_10 ?_
      refine r_baldN dX3_onlyWord_11 rfl (by omega) ?_
      rw [hb q (by omega)]
      refine r_bipush (v := 32) dX3_onlyWord_12 (by decide) ?_
      refine r_icmp_ne 23 dX3_onlyWord_14 (by decide) (fun c_14 => ?_) (fun c_14 => by exact absurd (hc.mp c_14) hl)
      exact K
set_option maxRecDepth 100000 in
set_option maxHeartbeats 4000000 in
theorem ow2 {h : PH} {n s : Nat} {B : Nat → Nat} (ok : OKB n B) (hb : ∀ i, i < n → h.1 1 i = sB (B i)) {Q : Option Value → PH → Prop} : ∀ (d : Nat), s + d ≤ n → RT mX3_onlyWord 2 44 [some (.ref 1), some (.int (nI n)), some (.int (nI s)), some (.int (nI (trB B s d))), none] [] h Q → RT mX3_onlyWord 2 23 [some (.ref 1), some (.int (nI n)), some (.int (nI s)), some (.int (nI (s + d))), none] [] h Q := by
  have hn := ok.1
  intro d
  induction d with
  | zero =>
    intro hd K
    refine r_iload_3 dX3_onlyWord_23 ?_
    refine r_iload_2 dX3_onlyWord_24 ?_
    refine r_icmpN_le 44 dX3_onlyWord_25 (by decide) (by omega) (by omega) (fun c_25 => ?_) (fun c_25 => by omega)
    exact K
  | succ d ih =>
    intro hd K
    have hc := (sB_c (ok.2 (s + d) (by omega))).1
    unfold trB at K
    by_cases hl : B (s + d) = 32
    · rw [if_pos hl] at K
      refine r_iload_3 dX3_onlyWord_23 ?_
      refine r_iload_2 dX3_onlyWord_24 ?_
      refine r_icmpN_le 44 dX3_onlyWord_25 (by decide) (by omega) (by omega) (fun c_25 => by omega) (fun c_25 => ?_)
      refine r_aload_0 dX3_onlyWord_28 ?_
      refine r_iload_3 dX3_onlyWord_29 ?_
      refine r_iconst (v := nI 1) dX3_onlyWord_30 (by decide) ?_
      refine r_isub dX3_onlyWord_31 ?_
      rw [nI_sb (by omega), show s + (d + 1) - 1 = s + d by omega]
      refine r_baldN dX3_onlyWord_32 rfl (by omega) ?_
      rw [hb (s + d) (by omega)]
      refine r_bipush (v := 32) dX3_onlyWord_33 (by decide) ?_
      refine r_icmp_ne 44 dX3_onlyWord_35 (by decide) (fun c_35 => by exact absurd (hc.mpr hl) c_35) (fun c_35 => ?_)
      refine r_idecN_3 dX3_onlyWord_38 ?_
      refine r_goto 23 dX3_onlyWord_41 (by decide) ?_
      exact ih (by omega) K
    · rw [if_neg hl] at K
      refine r_iload_3 dX3_onlyWord_23 ?_
      refine r_iload_2 dX3_onlyWord_24 ?_
      refine r_icmpN_le 44 dX3_onlyWord_25 (by decide) (by omega) (by omega) (fun c_25 => by omega) (fun c_25 => ?_)
      refine r_aload_0 dX3_onlyWord_28 ?_
      refine r_iload_3 dX3_onlyWord_29 ?_
      refine r_iconst (v := nI 1) dX3_onlyWord_30 (by decide) ?_
      refine r_isub dX3_onlyWord_31 ?_
      rw [nI_sb (by omega), show s + (d + 1) - 1 = s + d by omega]
      refine r_baldN dX3_onlyWord_32 rfl (by omega) ?_
      rw [hb (s + d) (by omega)]
      refine r_bipush (v := 32) dX3_onlyWord_33 (by decide) ?_
      refine r_icmp_ne 44 dX3_onlyWord_35 (by decide) (fun c_35 => ?_) (fun c_35 => by exact absurd (hc.mp c_35) hl)
      exact K
set_option maxRecDepth 100000 in
set_option maxHeartbeats 4000000 in
theorem ow3 {h : PH} {n s e : Nat} {B : Nat → Nat} (ok : OKB n B) (hb : ∀ i, i < n → h.1 1 i = sB (B i)) (he : e ≤ n) {x : Int64} (hx0 : ¬ allF B (e - s) s = true → x = 0) (K : allF B (e - s) s = true → RT mX3_onlyWord 2 71 [some (.ref 1), some (.int (nI n)), some (.int (nI s)), some (.int (nI e)), none] [] h (fun a h' => a = some (.long x) ∧ h' = h)) : ∀ (m i : Nat), i + m = e → (allF B (e - s) s = allF B m i) → RT mX3_onlyWord 2 47 [some (.ref 1), some (.int (nI n)), some (.int (nI s)), some (.int (nI e)), some (.int (nI i))] [] h (fun a h' => a = some (.long x) ∧ h' = h) := by
  have hn := ok.1
  intro m
  induction m with
  | zero =>
    intro i hi ea
    refine r_iload_4 dX3_onlyWord_47 ?_
    refine r_iload_3 dX3_onlyWord_49 ?_
    refine r_icmpN_ge 71 dX3_onlyWord_50 (by decide) (by omega) (by omega) (fun c_50 => ?_) (fun c_50 => by omega)
    refine RT.sub (lv' := [some (.ref 1), some (.int (nI n)), some (.int (nI s)), some (.int (nI e)), none]) (by simp [lsub]) ?_
    exact K (by rw [ea]; rfl)
  | succ m ih =>
    intro i hi ea
    have hbb := ok.2 i (by omega)
    by_cases hl : isL (B i) = true
    · skip
      refine r_iload_4 dX3_onlyWord_47 ?_
      refine r_iload_3 dX3_onlyWord_49 ?_
      refine r_icmpN_ge 71 dX3_onlyWord_50 (by decide) (by omega) (by omega) (fun c_50 => by omega) (fun c_50 => ?_)
      refine r_aload_0 dX3_onlyWord_53 ?_
      refine r_iload_4 dX3_onlyWord_54 ?_
      refine r_baldN dX3_onlyWord_56 rfl (by omega) ?_
      rw [hb i (by omega)]
      refine r_cS1 mX3_isLetter dX3_onlyWord_57 ml_X3_144 mo_X3_isLetter (k_isLetter _ _) (by decide) ?_
      rw [b2i_c (sB_L hbb), b2i_t hl]
      refine r_if_ne 65 dX3_onlyWord_60 (by decide) (fun c_60 => ?_) (fun c_60 => by exact absurd c_60 (by decide))
      refine r_iincN_4 dX3_onlyWord_65 ?_
      refine r_goto 47 dX3_onlyWord_68 (by decide) ?_
      exact ih (i + 1) (by omega) (by rw [ea]; show (isL (B i) && allF B m (i + 1)) = _; rw [hl, Bool.true_and])
    · have x0 := hx0 (by rw [ea]; show ¬ (isL (B i) && allF B m (i + 1)) = true; rw [Bool.eq_false_iff.mpr hl, Bool.false_and]; decide)
      rw [x0]
      refine r_iload_4 dX3_onlyWord_47 ?_
      refine r_iload_3 dX3_onlyWord_49 ?_
      refine r_icmpN_ge 71 dX3_onlyWord_50 (by decide) (by omega) (by omega) (fun c_50 => by omega) (fun c_50 => ?_)
      refine r_aload_0 dX3_onlyWord_53 ?_
      refine r_iload_4 dX3_onlyWord_54 ?_
      refine r_baldN dX3_onlyWord_56 rfl (by omega) ?_
      rw [hb i (by omega)]
      refine r_cS1 mX3_isLetter dX3_onlyWord_57 ml_X3_144 mo_X3_isLetter (k_isLetter _ _) (by decide) ?_
      rw [b2i_c (sB_L hbb), b2i_f hl]
      refine r_if_ne 65 dX3_onlyWord_60 (by decide) (fun c_60 => by exact absurd rfl c_60) (fun c_60 => ?_)
      refine r_lconst (v := 0) dX3_onlyWord_63 (by decide) ?_
      refine r_lret dX3_onlyWord_64 rfl ?_
      exact ⟨rfl, rfl⟩
set_option maxRecDepth 100000 in
set_option maxHeartbeats 4000000 in
theorem k_only {h : PH} {n : Nat} {B : Nat → Nat} (ok : OKB n B) (hb : ∀ i, i < n → h.1 1 i = sB (B i)) : ConF mX3_onlyWord 2 [.ref 1, .int (nI n)] h (some (.long (onW B n))) h := by
  have hn := ok.1
  have le := nB_le (B := B) (n := n)
  refine Con.mk (by decide) ?_
  show RT _ _ 0 [some (.ref 1), some (.int (nI n)), none, none, none] [] _ _
  refine r_iconst (v := nI 0) dX3_onlyWord_0 (by decide) ?_
  refine r_istore_2 dX3_onlyWord_1 ?_
  refine r_iload_1 dX3_onlyWord_2 ?_
  refine r_istore_3 dX3_onlyWord_3 ?_
  refine ow1 ok hb n 0 (by omega) ?_
  have e0 : runS isSp B n 0 = nB B n := rfl
  rw [e0, show nI n = nI (nB B n + (n - nB B n)) by rw [show nB B n + (n - nB B n) = n by omega]]
  rw [show nB B n + (n - nB B n) = n by omega]
  have w2 := @ow2 h n (nB B n) B ok hb (fun a h' => a = some (.long (onW B n)) ∧ h' = h) (n - nB B n) (by omega)
  rw [show nB B n + (n - nB B n) = n by omega] at w2
  refine w2 ?_
  have e1 : trB B (nB B n) (n - nB B n) = nE B n := rfl
  rw [e1]
  refine r_iload_2 dX3_onlyWord_44 ?_
  refine r_istore_4 dX3_onlyWord_45 ?_
  refine ow3 ok hb le.2.2 (fun q => if_neg (fun z => q z.1)) (fun ha => ?_) (nE B n - nB B n) (nB B n) (by omega) rfl
  by_cases h6 : nE B n - nB B n ≤ 6
  · refine r_iload_3 dX3_onlyWord_71 ?_
    refine r_iload_2 dX3_onlyWord_72 ?_
    refine r_isub dX3_onlyWord_73 ?_
    rw [nI_sb (by omega)]
    refine r_bipush (v := nI 6) dX3_onlyWord_74 (by decide) ?_
    refine r_icmpN_gt 88 dX3_onlyWord_76 (by decide) (by omega) (by omega) (fun c_76 => by omega) (fun c_76 => ?_)
    refine r_aload_0 dX3_onlyWord_79 ?_
    refine r_iload_2 dX3_onlyWord_80 ?_
    refine r_iload_3 dX3_onlyWord_81 ?_
    refine r_cS3 mX3_packed dX3_onlyWord_82 ml_X3_156 mo_X3_packed (by have q := k_packed (h := h) (B := B) (s := nB B n) (d := nE B n - nB B n) (by omega) (fun i hi => hb i (by omega)); rw [show nB B n + (nE B n - nB B n) = nE B n by omega] at q; exact q) (by decide) ?_
    refine r_goto 89 dX3_onlyWord_85 (by decide) ?_
    refine r_lret dX3_onlyWord_89 rfl ?_
    refine ⟨congrArg (fun x => some (Value.long x)) ?_, rfl⟩
    rw [if_pos ⟨ha, h6⟩, pkE_eq _ h6 (fun i hi => (allF_iff _ _).mp ha _ (by omega) (by omega)), show nB B n + (nE B n - nB B n) = nE B n by omega]; rfl
  · refine r_iload_3 dX3_onlyWord_71 ?_
    refine r_iload_2 dX3_onlyWord_72 ?_
    refine r_isub dX3_onlyWord_73 ?_
    rw [nI_sb (by omega)]
    refine r_bipush (v := nI 6) dX3_onlyWord_74 (by decide) ?_
    refine r_icmpN_gt 88 dX3_onlyWord_76 (by decide) (by omega) (by omega) (fun c_76 => ?_) (fun c_76 => by omega)
    refine r_lconst (v := 0) dX3_onlyWord_88 (by decide) ?_
    refine r_lret dX3_onlyWord_89 rfl ?_
    exact ⟨congrArg (fun x => some (Value.long x)) (show (0 : Int64) = onW B n by unfold onW; rw [if_neg (fun q => h6 q.2)]), rfl⟩

/-- what a call names, for both -/
def nmF (nm : NMS) (J : Nat) (B : Nat → Nat) (n0 : Nat) (x : Int32) : Option Nat := if (0 : Int32) ≤ x ∧ x ≤ nI n0 then jH nm J (nW B x.toInt.toNat) else none
set_option maxRecDepth 100000 in
set_option maxHeartbeats 4000000 in
theorem k_namedOK {h : PH} {t : NT} {nm : NMS} {ac : List NT} {ms : MES} (cx : CX h t nm ac ms) {n0 : Nat} (h0 : n0 ≤ 600) (e0 : h.1 0 1 = nI n0) {B : Nat → Nat} (ok : OKB n0 B) (hb : ∀ i, i < n0 → h.1 1 i = sB (B i)) {x : Int32} {j : Nat} (hj : nmF nm (NT.J t) B n0 x = some j) : ConF mX7_named 3 [.ref 0, .int x] h (some (.int (nI j))) h := by
  unfold nmF at hj
  by_cases hx : (0 : Int32) ≤ x ∧ x ≤ nI n0
  · rw [if_pos hx] at hj
    obtain ⟨n, hn, rfl⟩ := ex_le (k := n0) (by omega) hx
    rw [nI_toInt (by omega)] at hj
    have hj : jH nm (NT.J t) (nW B n) = some j := hj
    have hj9 := jH_lt hj
    obtain ⟨tx, no, -, sc, na, -⟩ := cx.2.2.2 (by omega)
    have hJ9 := tx.1.2.1
    have cl := k_called15 tx.1.2.1 cx.1 na no (on_eq (B := B) (n := n) no)
    rw [hj] at cl
    refine Con.mk (by decide) ?_
    show RT _ _ 0 [some (.ref 0), some (.int (nI n)), none] [] _ _
    refine r_iload_1 dX7_named_0 ?_
    refine r_if_lt 12 dX7_named_1 (by decide) (fun c_1 => by exact absurd c_1 (nI_pos (by omega))) (fun c_1 => ?_)
    refine r_iload_1 dX7_named_4 ?_
    refine r_aload_0 dX7_named_5 ?_
    refine r_getI dX7_named_6 fl_X7_58 rfl ?_
    rw [e0]
    refine r_icmpN_le 16 dX7_named_9 (by decide) (by omega) (by omega) (fun c_9 => ?_) (fun c_9 => by omega)
    refine r_aload_0 dX7_named_16 ?_
    refine r_getR (a := 15) dX7_named_17 fl_X7_37 rfl rfl ?_
    refine r_aload_0 dX7_named_20 ?_
    refine r_getR (a := 1) dX7_named_21 fl_X7_11 rfl rfl ?_
    refine r_iload_1 dX7_named_24 ?_
    refine r_cS2 mX3_onlyWord dX7_named_25 ml_X7_314 mo_X3_onlyWord (k_only (B := B) ⟨by omega, fun i hi => ok.2 i (by omega)⟩ (fun i hi => hb i (by omega))) (by decide) ?_
    refine r_cV1 mX2_jointCalled dX7_named_28 ml_X7_318 mo_X2_jointCalled rfl cl (by decide) ?_
    refine r_istore_2 dX7_named_31 ?_
    refine r_iload_2 dX7_named_32 ?_
    refine r_iconst (v := (-1)) dX7_named_33 (by decide) ?_
    refine r_icmp_ne 45 dX7_named_34 (by decide) (fun c_34 => ?_) (fun c_34 => by exact absurd c_34 (nI_ne_m1 (by omega)))
    refine r_iload_2 dX7_named_45 ?_
    refine r_iret dX7_named_46 rfl ?_
    exact ⟨rfl, rfl⟩
  · rw [if_neg hx] at hj; cases hj

