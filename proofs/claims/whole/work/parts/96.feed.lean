/-! ===== both: feed ===== -/
def shv : Nat → Int32
  | 0 => 24
  | 1 => 16
  | 2 => 8
  | 3 => 0
  | _ => -8
def byV (v : Int32) (k : Nat) : Int32 := (v >>> (shv k &&& 31)) &&& 255
theorem k4 {k : Nat} (h : k < 4) : k = 0 ∨ k = 1 ∨ k = 2 ∨ k = 3 := by omega
theorem shv_s {k : Nat} (h : k < 4) : shv k + -8 = shv (k + 1) := by rcases k4 h with rfl | rfl | rfl | rfl <;> decide
theorem shv_n {k : Nat} (h : k < 4) : ¬ shv k < 0 := by rcases k4 h with rfl | rfl | rfl | rfl <;> decide
theorem shv_m {k : Nat} (h : k < 4) : 24 - 8 * nI k = shv k := by rcases k4 h with rfl | rfl | rfl | rfl <;> decide
theorem byV_c (v : Int32) (k : Nat) : (byV v k).toInt8.toInt32 = (v >>> (shv k &&& 31)).toInt8.toInt32 := by unfold byV; rw [fa_byte_low]
theorem and255 (x : Int32) : 0 ≤ (x &&& 255).toInt ∧ (x &&& 255).toInt < 256 := by
  have hb : ∀ i, 8 ≤ i → i < 32 → bt (x &&& 255) i = false := fun i h1 h2 => by
    rw [b_and, show bt 255 i = false from (by decide +kernel : ∀ i, i < 32 → 8 ≤ i → bt 255 i = false) i h2 h1]; simp
  have e : (x &&& 255).toBitVec = (x.toBitVec &&& 255#32) := by rw [Int32.toBitVec_and]; rfl
  have h1 : (x.toBitVec &&& 255#32).toNat ≤ 255 := by
    rw [BitVec.toNat_and]; exact Nat.and_le_right
  have e2 : (x &&& 255).toInt = ((x.toBitVec &&& 255#32).toNat : Int) := by
    rw [← Int32.toInt_toBitVec, e, BitVec.toInt_eq_toNat_of_lt (by omega)]
  omega
def tpR : Nat → Prop := fun y => y = 0 ∨ y = 1
set_option maxRecDepth 100000 in
set_option maxHeartbeats 4000000 in
theorem put_loop (v : Int32) (h0 : PH) {n : Nat} (hn : n + 4 ≤ 600) : ∀ (m k : Nat) (h : PH), k + m = 4 → h.1 0 1 = nI (n + k) → (∀ i, i < k → h.1 1 (n + i) = (byV v i).toInt8.toInt32) → (∀ i, i < n → h.1 1 i = h0.1 1 i) → (∀ k, k ≠ 1 → h.1 0 k = h0.1 0 k) → Fr tpR h0 h → RT mX7_putBytes 1 3 [some (.ref 0), some (.int v), some (.int (shv k))] [] h (fun a h' => a = none ∧ (h'.1 0 1 = nI (n + 4) ∧ (∀ i, i < 4 → h'.1 1 (n + i) = (byV v i).toInt8.toInt32) ∧ (∀ i, i < n → h'.1 1 i = h0.1 1 i) ∧ (∀ k, k ≠ 1 → h'.1 0 k = h0.1 0 k) ∧ Fr tpR h0 h')) := by
  intro m
  induction m with
  | zero =>
    intro k h hk e1 h1 h2 h3 fr
    have : k = 4 := by omega
    subst this
    refine r_iload_2 dX7_putBytes_3 ?_
    refine r_if_lt 46 dX7_putBytes_4 (by decide) (fun c_4 => ?_) (fun c_4 => by exact absurd (by decide) c_4)
    refine r_vret dX7_putBytes_46 rfl ?_
    exact ⟨rfl, e1, h1, h2, h3, fr⟩
  | succ m ih =>
    intro k h hk e1 h1 h2 h3 fr
    have e2 : ∀ x, (pI h 1 (n + k) x).1 0 1 = nI (n + k) := fun x => (pI_ne 0 1 (Or.inl (by decide))).trans e1
    refine r_iload_2 dX7_putBytes_3 ?_
    refine r_if_lt 46 dX7_putBytes_4 (by decide) (fun c_4 => by exact absurd c_4 (shv_n (by omega))) (fun c_4 => ?_)
    refine r_aload_0 dX7_putBytes_7 ?_
    refine r_getI dX7_putBytes_8 fl_X7_58 rfl ?_
    rw [e1]
    refine r_sipush (v := nI 600) dX7_putBytes_11 (by decide) ?_
    refine r_icmpN_ge 46 dX7_putBytes_14 (by decide) (by omega) (by omega) (fun c_14 => by omega) (fun c_14 => ?_)
    refine r_aload_0 dX7_putBytes_17 ?_
    refine r_getR (a := 1) dX7_putBytes_18 fl_X7_11 rfl rfl ?_
    refine r_aload_0 dX7_putBytes_21 ?_
    refine r_getI dX7_putBytes_22 fl_X7_58 rfl ?_
    rw [e1]
    refine r_iload_1 dX7_putBytes_25 ?_
    refine r_iload_2 dX7_putBytes_26 ?_
    refine r_ishr dX7_putBytes_27 ?_
    refine r_i2b dX7_putBytes_28 ?_
    refine r_bastN dX7_putBytes_29 rfl (by omega) ?_
    refine r_aload_0 dX7_putBytes_30 ?_
    refine r_dupr dX7_putBytes_31 ?_
    refine r_getI dX7_putBytes_32 fl_X7_58 rfl ?_
    rw [e2]
    refine r_iconst (v := nI 1) dX7_putBytes_35 (by decide) ?_
    refine r_iadd dX7_putBytes_36 ?_
    rw [nI_ad9]
    refine r_putI dX7_putBytes_37 fl_X7_58 rfl rfl rfl ?_
    refine r_iinc_2 (v := (-8)) dX7_putBytes_40 (by decide) ?_
    rw [shv_s (by omega)]
    refine r_goto 3 dX7_putBytes_43 (by decide) ?_
    refine ih (k + 1) _ (by omega) pI_eq (fun i hi => ?_) (fun i hi => ?_) (fun i hi => ?_) ((fr.pI (Or.inr rfl)).pI (Or.inl rfl))
    · rw [pI_ne 1 _ (Or.inl (by decide))]
      by_cases q : i = k
      · rw [q, pI_eq, byV_c, Int8.toInt8_toInt32]
      · rw [pI_ne 1 _ (Or.inr (by omega))]; exact h1 i (by omega)
    · rw [pI_ne 1 _ (Or.inl (by decide)), pI_ne 1 _ (Or.inr (by omega))]; exact h2 i hi
    · rw [pI_ne 0 _ (Or.inr hi), pI_ne 0 _ (Or.inl (by decide))]; exact h3 i hi
set_option maxRecDepth 100000 in
set_option maxHeartbeats 4000000 in
theorem k_put {h0 : PH} (v : Int32) {n : Nat} (hn : n + 4 ≤ 600) (e1 : h0.1 0 1 = nI n) : Con mX7_putBytes 1 [.ref 0, .int v] h0 (fun a h' => a = none ∧ (h'.1 0 1 = nI (n + 4) ∧ (∀ i, i < 4 → h'.1 1 (n + i) = (byV v i).toInt8.toInt32) ∧ (∀ i, i < n → h'.1 1 i = h0.1 1 i) ∧ (∀ k, k ≠ 1 → h'.1 0 k = h0.1 0 k) ∧ Fr tpR h0 h')) := by
  refine Con.mk (by decide) ?_
  show RT _ _ 0 [some (.ref 0), some (.int v), none] [] _ _
  refine r_bipush (v := 24) dX7_putBytes_0 (by decide) ?_
  refine r_istore_2 dX7_putBytes_2 ?_
  exact put_loop v h0 hn 4 0 h0 (by omega) e1 (fun i hi => by omega) (fun i hi => rfl) (fun i hi => rfl) Fr.rf

set_option maxRecDepth 100000 in
set_option maxHeartbeats 4000000 in
theorem mput (v : Int32) (h0 : PH) {n : Nat} (hn : n + 4 ≤ 600) (e1 : h0.1 74 5 = nI n) : ∀ (m k : Nat) (h : PH), k + m = 4 → (∀ i, i < k → h.1 75 (n + i) = byV v i) → (∀ i, i < n → h.1 75 i = h0.1 75 i) → FM (fun y => y = 75) noF h0 h → RT mX8_laysWord 1 2 [some (.ref 74), some (.int v), some (.int (nI k))] [] h (fun a h' => a = none ∧ ((∀ i, i < 4 → h'.1 75 (n + i) = byV v i) ∧ (∀ i, i < n → h'.1 75 i = h0.1 75 i) ∧ h'.1 74 5 = nI (n + 4) ∧ FM (fun y => y = 75) (fun k => k = 5) h0 h')) := by
  intro m
  induction m with
  | zero =>
    intro k h hk h1 h2 fr
    have : k = 4 := by omega
    subst this
    have e2 : h.1 74 5 = nI n := (fr.1 5 id).trans e1
    refine r_iload_2 dX8_laysWord_2 ?_
    refine r_iconst (v := nI 4) dX8_laysWord_3 (by decide) ?_
    refine r_icmpN_ge 37 dX8_laysWord_4 (by decide) (by omega) (by omega) (fun c_4 => ?_) (fun c_4 => by omega)
    refine r_aload_0 dX8_laysWord_37 ?_
    refine r_dupr dX8_laysWord_38 ?_
    refine r_getI dX8_laysWord_39 fl_X8_104 rfl ?_
    rw [e2]
    refine r_iconst (v := nI 4) dX8_laysWord_42 (by decide) ?_
    refine r_iadd dX8_laysWord_43 ?_
    rw [nI_ad9]
    refine r_putI dX8_laysWord_44 fl_X8_104 rfl rfl rfl ?_
    refine r_vret dX8_laysWord_47 rfl ?_
    refine ⟨rfl, fun i hi => ?_, fun i hi => ?_, pI_eq, (fr.wk (fun y q => q) (fun k q => q.elim)).pF rfl⟩
    · rw [pI_ne 75 _ (Or.inl (by decide))]; exact h1 i hi
    · rw [pI_ne 75 _ (Or.inl (by decide))]; exact h2 i hi
  | succ m ih =>
    intro k h hk h1 h2 fr
    have e2 : h.1 74 5 = nI n := (fr.1 5 id).trans e1
    refine r_iload_2 dX8_laysWord_2 ?_
    refine r_iconst (v := nI 4) dX8_laysWord_3 (by decide) ?_
    refine r_icmpN_ge 37 dX8_laysWord_4 (by decide) (by omega) (by omega) (fun c_4 => by omega) (fun c_4 => ?_)
    refine r_aload_0 dX8_laysWord_7 ?_
    refine r_getR (a := 75) dX8_laysWord_8 fl_X8_15 rfl rfl ?_
    refine r_aload_0 dX8_laysWord_11 ?_
    refine r_getI dX8_laysWord_12 fl_X8_104 rfl ?_
    rw [e2]
    refine r_iload_2 dX8_laysWord_15 ?_
    refine r_iadd dX8_laysWord_16 ?_
    rw [nI_ad9]
    refine r_iload_1 dX8_laysWord_17 ?_
    refine r_bipush (v := 24) dX8_laysWord_18 (by decide) ?_
    refine r_bipush (v := 8) dX8_laysWord_20 (by decide) ?_
    refine r_iload_2 dX8_laysWord_22 ?_
    refine r_imul dX8_laysWord_23 ?_
    refine r_isub dX8_laysWord_24 ?_
    rw [shv_m (by omega)]
    refine r_ishr dX8_laysWord_25 ?_
    refine r_sipush (v := 255) dX8_laysWord_26 (by decide) ?_
    refine r_iand dX8_laysWord_29 ?_
    refine r_iastN dX8_laysWord_30 rfl (by omega) ?_
    refine r_iincN_2 dX8_laysWord_31 ?_
    refine r_goto 2 dX8_laysWord_34 (by decide) ?_
    refine ih (k + 1) _ (by omega) (fun i hi => ?_) (fun i hi => ?_) (fr.pI (by decide) rfl)
    · by_cases q : i = k
      · rw [q, pI_eq]; rfl
      · rw [pI_ne 75 _ (Or.inr (by omega))]; exact h1 i (by omega)
    · rw [pI_ne 75 _ (Or.inr (by omega))]; exact h2 i hi
set_option maxRecDepth 100000 in
set_option maxHeartbeats 4000000 in
theorem q_put {h0 : PH} (v : Int32) {n : Nat} (hn : n + 4 ≤ 600) (e1 : h0.1 74 5 = nI n) : Con mX8_laysWord 1 [.ref 74, .int v] h0 (fun a h' => a = none ∧ ((∀ i, i < 4 → h'.1 75 (n + i) = byV v i) ∧ (∀ i, i < n → h'.1 75 i = h0.1 75 i) ∧ h'.1 74 5 = nI (n + 4) ∧ FM (fun y => y = 75) (fun k => k = 5) h0 h')) := by
  refine Con.mk (by decide) ?_
  show RT _ _ 0 [some (.ref 74), some (.int v), none] [] _ _
  refine r_iconst (v := nI 0) dX8_laysWord_0 (by decide) ?_
  refine r_istore_2 dX8_laysWord_1 ?_
  exact mput v h0 hn e1 4 0 h0 (by omega) (fun i hi => by omega) (fun i hi => rfl) FM.rf

def apB (bs : Nat → Int32) (n : Nat) (v : Int32) : Nat → Int32 := fun i => if i < n then bs i else byV v (i - n)
theorem MX.tp {h h' : PH} {t : NT} {nm : NMS} {ac : List NT} {ms : MES} (c : MX h t nm ac ms) (z : ∀ k, 6 ≤ k → h'.1 74 k = h.1 74 k) (g : ∀ y, 75 < y → h'.1 y = h.1 y ∧ h'.2 y = h.2 y) : MX h' t nm ac ms := by
  have a : ∀ y, 75 < y → h'.1 y = h.1 y := fun y hy => (g y hy).1
  obtain ⟨c1, c2, c3, c4, c5, c6⟩ := c
  refine ⟨by rw [z 6 (by omega)]; exact c1, by rw [z 7 (by omega)]; exact c2, by rw [z 44 (by omega)]; exact c3, by rw [z 46 (by omega)]; exact c4, fun q => by rw [z 34 (by omega)]; exact c5 q, fun h0 => ?_⟩
  obtain ⟨d1, d2, d3, d4, d5⟩ := c6 h0
  refine ⟨?_, ?_, ?_, ?_, ?_⟩
  · unfold RawM; rw [z 6 (by omega), z 7 (by omega), z 17 (by omega), a 76 (by omega), a 77 (by omega), a 79 (by omega), a 80 (by omega), a 81 (by omega), a 82 (by omega), a 83 (by omega), a 84 (by omega)]; exact d1
  · unfold SolM NetM drE TreeM RingsM RAtM
    rw [z 6 (by omega), z 7 (by omega), z 17 (by omega), z 28 (by omega), z 29 (by omega), z 32 (by omega), z 34 (by omega), z 39 (by omega), z 40 (by omega), z 41 (by omega), z 44 (by omega), z 45 (by omega), z 46 (by omega), a 76 (by omega), a 77 (by omega), a 79 (by omega), a 80 (by omega), a 81 (by omega), a 82 (by omega), a 83 (by omega), a 84 (by omega), a 85 (by omega), a 86 (by omega), a 88 (by omega), a 89 (by omega), a 90 (by omega), (g 87 (by omega)).2, (g 91 (by omega)).2]; exact d2
  · unfold NamM; rw [a 78 (by omega)]; exact d3
  · unfold ActM; rw [z 51 (by omega), a 96 (by omega), a 97 (by omega), a 98 (by omega)]; exact d4
  · unfold MeaM; rw [a 94 (by omega), a 95 (by omega)]; exact d5
/-- the tape of the class, the tape of the reference -/
def TpC (h : PH) (n : Nat) (bs : Nat → Int32) : Prop := h.1 0 1 = nI n ∧ ∀ i, i < n → h.1 1 i = (bs i).toInt8.toInt32
def TpM (h : PH) (n : Nat) (bs : Nat → Int32) : Prop := h.1 74 5 = nI n ∧ ∀ i, i < n → h.1 75 i = bs i ∧ 0 ≤ (bs i).toInt ∧ (bs i).toInt < 256
theorem TpC.put {h h' : PH} {n : Nat} {bs : Nat → Int32} {v : Int32} (c : TpC h n bs) (e : h'.1 0 1 = nI (n + 4)) (a : ∀ i, i < 4 → h'.1 1 (n + i) = (byV v i).toInt8.toInt32) (b : ∀ i, i < n → h'.1 1 i = h.1 1 i) : TpC h' (n + 4) (apB bs n v) := ⟨e, fun i hi => by
  unfold apB
  by_cases q : i < n
  · rw [if_pos q, b i q]; exact c.2 i q
  · rw [if_neg q, show i = n + (i - n) by omega, a (i - n) (by omega), show n + (i - n) - n = i - n by omega]⟩
theorem TpM.put {h h' : PH} {n : Nat} {bs : Nat → Int32} {v : Int32} (c : TpM h n bs) (a : ∀ i, i < 4 → h'.1 75 (n + i) = byV v i) (b : ∀ i, i < n → h'.1 75 i = h.1 75 i) (e : h'.1 74 5 = nI (n + 4)) : TpM h' (n + 4) (apB bs n v) := ⟨e, fun i hi => by
  unfold apB
  by_cases q : i < n
  · rw [if_pos q, b i q]; exact c.2 i q
  · rw [if_neg q]
    refine ⟨?_, and255 _⟩
    rw [show i = n + (i - n) by omega, a (i - n) (by omega), show n + (i - n) - n = i - n by omega]⟩
set_option maxRecDepth 100000 in
set_option maxHeartbeats 4000000 in
theorem o_feed {h : PH} (i : INV h) (a b c d e : Int32) : Same2 mX7_feed 2 [.ref 0, .int a, .int b, .int c, .int d, .int e] mX8_feed 2 [.ref 74, .int a, .int b, .int c, .int d, .int e] h := by
  have i0 := i
  obtain ⟨n, bs, tr, fl, wp, t, nm, ac, ms, i1, i2, i3, i4, i5, i6⟩ := i
  obtain ⟨j1, j2, j3⟩ := i1
  obtain ⟨l1, l2, l3⟩ := i4
  by_cases hn : n + 20 ≤ 600
  · refine ⟨.int (nI (n + 20)), fun h1 => TpC h1 (n + 20) (apB (apB (apB (apB (apB bs n a) (n + 4) b) (n + 8) c) (n + 12) d) (n + 16) e) ∧ (∀ k, k ≠ 1 → h1.1 0 k = h.1 0 k) ∧ Fr tpR h h1, fun h1 h2 => TpM h2 (n + 20) (apB (apB (apB (apB (apB bs n a) (n + 4) b) (n + 8) c) (n + 12) d) (n + 16) e) ∧ FM (fun y => y = 75) (fun k => k = 5) (pI h1 74 0 0) h2, ?_, fun h1 q => ?_, fun h1 h2 q z => ?_⟩
    · have t0 : TpC h (n + 0) bs := ⟨j1, j3⟩
      refine Con.mk (by decide) ?_
      show RT _ _ 0 [some (.ref 0), some (.int a), some (.int b), some (.int c), some (.int d), some (.int e)] [] _ _
      refine r_aload_0 dX7_feed_0 ?_
      refine r_getI dX7_feed_1 fl_X7_58 rfl ?_
      rw [j1]
      refine r_bipush (v := nI 20) dX7_feed_4 (by decide) ?_
      refine r_iadd dX7_feed_6 ?_
      rw [nI_ad9]
      refine r_sipush (v := nI 600) dX7_feed_7 (by decide) ?_
      refine r_icmpN_le 15 dX7_feed_10 (by decide) (by omega) (by omega) (fun c_10 => ?_) (fun c_10 => by omega)
      refine r_aload_0 dX7_feed_15 ?_
      refine r_iload_1 dX7_feed_16 ?_
      refine r_cWQ1 mX7_putBytes dX7_feed_17 ml_X7_61 mo_X7_putBytes rfl (k_put a (n := n + 0) (by omega) j1) (by decide) (fun x1 p1 => ?_)
      obtain ⟨e1, a1, b1, c1, f1⟩ := p1
      have t1 := t0.put e1 a1 b1
      refine r_aload_0 dX7_feed_20 ?_
      refine r_iload_2 dX7_feed_21 ?_
      refine r_cWQ1 mX7_putBytes dX7_feed_22 ml_X7_61 mo_X7_putBytes rfl (k_put b (n := n + 4) (by omega) e1) (by decide) (fun x2 p2 => ?_)
      obtain ⟨e2, a2, b2, c2, f2⟩ := p2
      have t2 := t1.put e2 a2 b2
      refine r_aload_0 dX7_feed_25 ?_
      refine r_iload_3 dX7_feed_26 ?_
      refine r_cWQ1 mX7_putBytes dX7_feed_27 ml_X7_61 mo_X7_putBytes rfl (k_put c (n := n + 8) (by omega) e2) (by decide) (fun x3 p3 => ?_)
      obtain ⟨e3, a3, b3, c3, f3⟩ := p3
      have t3 := t2.put e3 a3 b3
      refine r_aload_0 dX7_feed_30 ?_
      refine r_iload_4 dX7_feed_31 ?_
      refine r_cWQ1 mX7_putBytes dX7_feed_33 ml_X7_61 mo_X7_putBytes rfl (k_put d (n := n + 12) (by omega) e3) (by decide) (fun x4 p4 => ?_)
      obtain ⟨e4, a4, b4, c4, f4⟩ := p4
      have t4 := t3.put e4 a4 b4
      refine r_aload_0 dX7_feed_36 ?_
      refine r_iload_5 dX7_feed_37 ?_
      refine r_cWQ1 mX7_putBytes dX7_feed_39 ml_X7_61 mo_X7_putBytes rfl (k_put e (n := n + 16) (by omega) e4) (by decide) (fun x5 p5 => ?_)
      obtain ⟨e5, a5, b5, c5, f5⟩ := p5
      have t5 := t4.put e5 a5 b5
      refine r_aload_0 dX7_feed_42 ?_
      refine r_getI dX7_feed_43 fl_X7_58 rfl ?_
      rw [e5]
      refine r_iret dX7_feed_46 rfl ?_
      exact ⟨rfl, t5, fun k hk => (c5 k hk).trans ((c4 k hk).trans ((c3 k hk).trans ((c2 k hk).trans (c1 k hk)))), (((f1.tr f2).tr f3).tr f4).tr f5⟩
    · have k1 : ∀ y, 1 < y → h1.1 y = h.1 y ∧ h1.2 y = h.2 y := fun y hy => q.2.2 y (fun z => by unfold tpR at z; omega)
      have g5 : (pI h1 74 0 0).1 74 5 = nI n := by rw [pI_ne 74 5 (Or.inr (by decide)), (k1 74 (by omega)).1]; exact l1
      have t0 : TpM (pI h1 74 0 0) (n + 0) bs := ⟨g5, fun i hi => by rw [pI_ne 75 i (Or.inl (by decide)), (k1 75 (by omega)).1]; exact l3 i hi⟩
      refine Con.mk (by decide) ?_
      show RT _ _ 0 [some (.ref 74), some (.int a), some (.int b), some (.int c), some (.int d), some (.int e)] [] _ _
      refine r_aload_0 dX8_feed_0 ?_
      refine r_iconst (v := 0) dX8_feed_1 (by decide) ?_
      refine r_putI dX8_feed_2 fl_X8_96 rfl rfl rfl ?_
      refine r_aload_0 dX8_feed_5 ?_
      refine r_getI dX8_feed_6 fl_X8_104 rfl ?_
      rw [g5]
      refine r_sipush (v := nI 580) dX8_feed_9 (by decide) ?_
      refine r_icmpN_le 17 dX8_feed_12 (by decide) (by omega) (by omega) (fun c_12 => ?_) (fun c_12 => by omega)
      refine r_aload_0 dX8_feed_17 ?_
      refine r_iload_1 dX8_feed_18 ?_
      refine r_cWQ1 mX8_laysWord dX8_feed_19 ml_X8_107 mo_X8_laysWord rfl (q_put a (n := n + 0) (by omega) g5) (by decide) (fun x1 p1 => ?_)
      obtain ⟨a1, b1, e1, f1⟩ := p1
      have t1 := t0.put a1 b1 e1
      refine r_aload_0 dX8_feed_22 ?_
      refine r_iload_2 dX8_feed_23 ?_
      refine r_cWQ1 mX8_laysWord dX8_feed_24 ml_X8_107 mo_X8_laysWord rfl (q_put b (n := n + 4) (by omega) e1) (by decide) (fun x2 p2 => ?_)
      obtain ⟨a2, b2, e2, f2⟩ := p2
      have t2 := t1.put a2 b2 e2
      refine r_aload_0 dX8_feed_27 ?_
      refine r_iload_3 dX8_feed_28 ?_
      refine r_cWQ1 mX8_laysWord dX8_feed_29 ml_X8_107 mo_X8_laysWord rfl (q_put c (n := n + 8) (by omega) e2) (by decide) (fun x3 p3 => ?_)
      obtain ⟨a3, b3, e3, f3⟩ := p3
      have t3 := t2.put a3 b3 e3
      refine r_aload_0 dX8_feed_32 ?_
      refine r_iload_4 dX8_feed_33 ?_
      refine r_cWQ1 mX8_laysWord dX8_feed_35 ml_X8_107 mo_X8_laysWord rfl (q_put d (n := n + 12) (by omega) e3) (by decide) (fun x4 p4 => ?_)
      obtain ⟨a4, b4, e4, f4⟩ := p4
      have t4 := t3.put a4 b4 e4
      refine r_aload_0 dX8_feed_38 ?_
      refine r_iload_5 dX8_feed_39 ?_
      refine r_cWQ1 mX8_laysWord dX8_feed_41 ml_X8_107 mo_X8_laysWord rfl (q_put e (n := n + 16) (by omega) e4) (by decide) (fun x5 p5 => ?_)
      obtain ⟨a5, b5, e5, f5⟩ := p5
      have t5 := t4.put a5 b5 e5
      refine r_aload_0 dX8_feed_44 ?_
      refine r_getI dX8_feed_45 fl_X8_104 rfl ?_
      rw [e5]
      refine r_iret dX8_feed_48 rfl ?_
      exact ⟨rfl, t5, (((f1.tr f2).tr f3).tr f4).tr f5⟩
    · obtain ⟨q1, q2, q3⟩ := q
      obtain ⟨z1, z2⟩ := z
      have k1 : ∀ y, 1 < y → h1.1 y = h.1 y ∧ h1.2 y = h.2 y := fun y hy => q3 y (fun z => by unfold tpR at z; omega)
      have k2 : ∀ y, y ≠ 74 → y ≠ 75 → h2.1 y = h1.1 y ∧ h2.2 y = h1.2 y := fun y a b => ⟨(z2.2.1 y a b).1.trans (funext fun k => pI_ne y k (Or.inl a)), (z2.2.1 y a b).2⟩
      have k3 : ∀ k, k ≠ 0 → k ≠ 5 → h2.1 74 k = h.1 74 k := fun k a b => by rw [z2.1 k b, pI_ne 74 k (Or.inr a), (k1 74 (by omega)).1]
      refine ⟨n + 20, _, tr, fl, wp, t, nm, ac, ms, ⟨by rw [(k2 0 (by decide) (by decide)).1]; exact q1.1, hn, fun i hi => by rw [(k2 1 (by decide) (by decide)).1]; exact q1.2 i hi⟩, ⟨?_, ?_, ?_⟩, ?_, ⟨z1.1, hn, z1.2⟩, ⟨?_, ?_, ?_, i5.2.2.2⟩, ?_⟩
      · rw [(k2 0 (by decide) (by decide)).1, q2 4 (by decide)]; exact i2.1
      · rw [(k2 0 (by decide) (by decide)).1, q2 2 (by decide)]; exact i2.2.1
      · rw [(k2 0 (by decide) (by decide)).1, q2 3 (by decide)]; exact i2.2.2
      · exact i3.k (fun y a b => ⟨(k2 y (by omega) (by omega)).1.trans (k1 y (by omega)).1, (k2 y (by omega) (by omega)).2.trans (k1 y (by omega)).2⟩)
      · rw [k3 1 (by decide) (by decide)]; exact i5.1
      · rw [k3 2 (by decide) (by decide)]; exact i5.2.1
      · rw [k3 3 (by decide) (by decide)]; exact i5.2.2.1
      · exact i6.tp (fun k hk => k3 k (by omega) (by omega)) (fun y hy => ⟨(k2 y (by omega) (by omega)).1.trans (k1 y (by omega)).1, (k2 y (by omega) (by omega)).2.trans (k1 y (by omega)).2⟩)
  · refine Quiet.to2 i0 ⟨.int (-1), ?_, ?_⟩
    · refine Con.mk (by decide) ?_
      show RT _ _ 0 [some (.ref 0), some (.int a), some (.int b), some (.int c), some (.int d), some (.int e)] [] _ _
      refine r_aload_0 dX7_feed_0 ?_
      refine r_getI dX7_feed_1 fl_X7_58 rfl ?_
      rw [j1]
      refine r_bipush (v := nI 20) dX7_feed_4 (by decide) ?_
      refine r_iadd dX7_feed_6 ?_
      rw [nI_ad9]
      refine r_sipush (v := nI 600) dX7_feed_7 (by decide) ?_
      refine r_icmpN_le 15 dX7_feed_10 (by decide) (by omega) (by omega) (fun c_10 => by omega) (fun c_10 => ?_)
      refine r_iconst (v := (-1)) dX7_feed_13 (by decide) ?_
      refine r_iret dX7_feed_14 rfl ?_
      exact ⟨rfl, rfl⟩
    · refine Con.mk (by decide) ?_
      show RT _ _ 0 [some (.ref 74), some (.int a), some (.int b), some (.int c), some (.int d), some (.int e)] [] _ _
      refine r_aload_0 dX8_feed_0 ?_
      refine r_iconst (v := 0) dX8_feed_1 (by decide) ?_
      refine r_putI dX8_feed_2 fl_X8_96 rfl rfl rfl ?_
      refine r_aload_0 dX8_feed_5 ?_
      refine r_getI dX8_feed_6 fl_X8_104 rfl ?_
      rw [show (pI h 74 0 0).1 74 5 = nI n from (pI_ne 74 5 (Or.inr (by decide))).trans l1]
      refine r_sipush (v := nI 580) dX8_feed_9 (by decide) ?_
      refine r_icmpN_le 17 dX8_feed_12 (by decide) (by omega) (by omega) (fun c_12 => by omega) (fun c_12 => ?_)
      refine r_iconst (v := (-1)) dX8_feed_15 (by decide) ?_
      refine r_iret dX8_feed_16 rfl ?_
      exact ⟨rfl, rfl⟩

