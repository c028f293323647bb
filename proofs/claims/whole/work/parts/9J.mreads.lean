/-! ===== the reference reads: what it has, what stays ===== -/
def lowN (y : Nat) : Nat := if y = 76 ∨ y = 77 then 9 else if y = 78 then 54 else if y = 83 then 84 else 14
def FR (h h' : PH) : Prop := (∀ k, (k ≤ 18 ∨ 27 < k) → h'.1 74 k = h.1 74 k) ∧ (∀ y, h'.2 y = h.2 y) ∧ ∀ y k, y ≠ 74 → (y < 76 ∨ 84 < y ∨ k < lowN y) → h'.1 y k = h.1 y k
theorem FR.rf {h : PH} : FR h h := ⟨fun _ _ => rfl, fun _ => rfl, fun _ _ _ _ => rfl⟩
theorem FR.tr {h h' h'' : PH} (a : FR h h') (b : FR h' h'') : FR h h'' := ⟨fun k q => (b.1 k q).trans (a.1 k q), fun y => (b.2.1 y).trans (a.2.1 y), fun y k p q => (b.2.2 y k p q).trans (a.2.2 y k p q)⟩
theorem fr_pF {h h' : PH} (a : FR h h') {k : Nat} {x : Int32} (h1 : 18 < k) (h2 : k ≤ 27) : FR h (pI h' 74 k x) := ⟨fun j q => (pI_ne 74 j (Or.inr (by omega))).trans (a.1 j q), a.2.1, fun y j p q => (pI_ne y j (Or.inl p)).trans (a.2.2 y j p q)⟩
theorem fr_pA {h h' : PH} (a : FR h h') {y k : Nat} {x : Int32} (h0 : y ≠ 74) (h1 : 76 ≤ y ∧ y ≤ 84) (h2 : lowN y ≤ k) : FR h (pI h' y k x) := ⟨fun j q => (pI_ne 74 j (Or.inl (Ne.symm h0))).trans (a.1 j q), a.2.1, fun z j p q => by
  refine (pI_ne z j ?_).trans (a.2.2 z j p q)
  by_cases e : z = y
  · right; intro e2; subst e; omega
  · exact Or.inl e⟩
theorem fr_fm {F : Nat → Prop} {h h' : PH} (f : FM noS F h h') (hF : ∀ k, F k → 18 < k ∧ k ≤ 27) : FR h h' := ⟨fun k q => f.1 k (fun z => by have := hF k z; omega), fun y => by
  by_cases e : y = 74
  · rw [e]; exact f.2.2 (fun z => by have := hF 48 z; omega)
  · exact (f.2.1 y e id).2, fun y k p _ => congrFun (f.2.1 y p id).1 k⟩
theorem tkF_r {k : Nat} (h : tkF k) : 18 < k ∧ k ≤ 27 := by unfold tkF at h; omega
def RdG (h : PH) (t : NT) (nm : NMS) (E : Nat) : Prop := h.1 74 25 = nI (NT.J t) ∧ h.1 74 26 = nI E ∧ (∀ j, j < NT.J t → h.1 76 (9 + j) = tdM t j ∧ h.1 77 (9 + j) = NT.ht t j ∧ ∀ k, k < 6 → h.1 78 (6 * (9 + j) + k) = nI ((nm j).getD k 0)) ∧ ∀ e, e < NT.E t → h.1 79 (14 + e) = nI (NT.fi t e) ∧ h.1 80 (14 + e) = nI (NT.se t e) ∧ h.1 81 (14 + e) = NT.kd t e ∧ h.1 82 (14 + e) = rsM t e ∧ h.1 84 (14 + e) = nI (NT.lc t e) ∧ ∀ k, k < NT.lc t e → h.1 83 (6 * (14 + e) + k) = NT.lf t e k
def RMd (h : PH) (n : Nat) (B : Nat → Nat) (k : TK) (t : NT) (nm : NMS) : Prop := MB h n B ∧ MK h B k ∧ RdG h t nm (NT.E t)
theorem RdG.fm {F : Nat → Prop} {h h' : PH} {t : NT} {nm : NMS} {E : Nat} (r : RdG h t nm E) (f : FM noS F h h') (h25 : ¬ F 25) (h26 : ¬ F 26) : RdG h' t nm E := by
  have g : ∀ y, y ≠ 74 → h'.1 y = h.1 y := fun y hy => (f.2.1 y hy id).1
  unfold RdG
  rw [f.1 25 h25, f.1 26 h26, g 76 (by decide), g 77 (by decide), g 78 (by decide), g 79 (by decide), g 80 (by decide), g 81 (by decide), g 82 (by decide), g 83 (by decide), g 84 (by decide)]; exact r
theorem RdG.pF {h : PH} {t : NT} {nm : NMS} {E : Nat} (r : RdG h t nm E) {k : Nat} {x : Int32} (h25 : k ≠ 25) (h26 : k ≠ 26) : RdG (pI h 74 k x) t nm E := r.fm (F := fun j => j = k) (FM.rf.pF rfl) (fun q => h25 q.symm) (fun q => h26 q.symm)
/-- rows behind what is read are written -/
theorem RdG.wr {h : PH} {t : NT} {nm : NMS} {E : Nat} (r : RdG h t nm E) (hl : ∀ e, e < NT.E t → NT.lc t e ≤ 6) {y i : Nat} {x : Int32} (hy : y ≠ 74) (h76 : y = 76 ∨ y = 77 → 9 + NT.J t ≤ i) (h78 : y = 78 → 6 * (9 + NT.J t) ≤ i) (h79 : 79 ≤ y → y ≠ 83 → 14 + NT.E t ≤ i) (h83 : y = 83 → 6 * (14 + NT.E t) ≤ i) : RdG (pI h y i x) t nm E := by
  obtain ⟨r1, r2, r3, r4⟩ := r
  have q : ∀ z j, (z = y → j < i) → (pI h y i x).1 z j = h.1 z j := fun z j p => pI_ne z j (by
    by_cases e : z = y
    · exact Or.inr (by have := p e; omega)
    · exact Or.inl e)
  refine ⟨(q 74 25 (fun e => absurd e.symm hy)).trans r1, (q 74 26 (fun e => absurd e.symm hy)).trans r2, fun j hj => ?_, fun e he => ?_⟩
  · obtain ⟨a1, a2, a3⟩ := r3 j hj
    refine ⟨(q 76 _ (fun e => by have := h76 (Or.inl e.symm); omega)).trans a1, (q 77 _ (fun e => by have := h76 (Or.inr e.symm); omega)).trans a2, fun k hk => (q 78 _ (fun e => by have := h78 e.symm; omega)).trans (a3 k hk)⟩
  · obtain ⟨a1, a2, a3, a4, a5, a6⟩ := r4 e he
    have l := hl e he
    exact ⟨(q 79 _ (fun z => by have := h79 (by omega) (by omega); omega)).trans a1, (q 80 _ (fun z => by have := h79 (by omega) (by omega); omega)).trans a2, (q 81 _ (fun z => by have := h79 (by omega) (by omega); omega)).trans a3, (q 82 _ (fun z => by have := h79 (by omega) (by omega); omega)).trans a4, (q 84 _ (fun z => by have := h79 (by omega) (by omega); omega)).trans a5, fun k hk => (q 83 _ (fun z => by have := h83 z.symm; omega)).trans (a6 k hk)⟩
def MOut (h0 h' : PH) (n : Nat) (B : Nat → Nat) (r : RS) : Prop := (r.1 = 0 → RMd h' n B r.2.1 r.2.2.1 r.2.2.2) ∧ (r.1 ≠ 0 → h'.1 74 23 = r.1 ∧ h'.1 74 24 = nI r.2.1.2.1) ∧ FR h0 h'
def erH (h : PH) (x : Int32) (k : TK) : PH := pI (pI h 74 23 x) 74 24 (nI k.2.1)
theorem erH_b {h : PH} {x : Int32} {k : TK} : (erH h x k).1 74 23 = x ∧ (erH h x k).1 74 24 = nI k.2.1 := ⟨(pI_ne 74 23 (Or.inr (by decide))).trans pI_eq, pI_eq⟩
theorem erH_f {h h' : PH} (f : FR h h') {x : Int32} {k : TK} : FR h (erH h' x k) := fr_pF (fr_pF f (by decide) (by decide)) (by decide) (by decide)
set_option maxRecDepth 100000 in
set_option maxHeartbeats 4000000 in
theorem q_errs {h : PH} {B : Nat → Nat} {k : TK} (mk : MK h B k) (x : Int32) : ConF mX8_errs 1 [.ref 74, .int x] h (some (.int 0)) (erH h x k) := by
  refine Con.mk (by decide) ?_
  show RT _ _ 0 [some (.ref 74), some (.int x)] [] _ _
  refine r_aload_0 dX8_errs_0 ?_
  refine r_iload_1 dX8_errs_1 ?_
  refine r_putI dX8_errs_2 fl_X8_152 rfl rfl rfl ?_
  refine r_aload_0 dX8_errs_5 ?_
  refine r_aload_0 dX8_errs_6 ?_
  refine r_getI dX8_errs_7 fl_X8_121 rfl ?_
  rw [show (pI h 74 23 x).1 74 19 = nI k.2.1 from (pI_ne 74 19 (Or.inr (by decide))).trans mk.2.1]
  refine r_putI dX8_errs_10 fl_X8_155 rfl rfl rfl ?_
  refine r_iconst (v := 0) dX8_errs_13 (by decide) ?_
  refine r_zret dX8_errs_14 rfl rfl ?_
  exact ⟨rfl, rfl⟩

set_option maxRecDepth 100000 in
set_option maxHeartbeats 4000000 in
theorem jh_loop {h : PH} {n : Nat} {B : Nat → Nat} (ok : OKB n B) (mb : MB h n B) {k : TK} (mk : MK h B k) (tk : TKok n k) {t : NT} {nm : NMS} {E : Nat} (r : RdG h t nm E) (hJ : NT.J t ≤ 9) (no : nmOK t nm) : ∀ (m j : Nat), j + m = NT.J t → RT mX8_jointHere 2 2 [some (.ref 74), some (.int (nI j))] [] h (fun a h' => a = some (.int (oI (fnd (fun j => decide (nm j = wd B k)) j m))) ∧ h' = h) := by
  have k0 := r.1
  intro m
  induction m with
  | zero =>
    intro j hj
    refine r_iload_1 dX8_jointHere_2 ?_
    refine r_aload_0 dX8_jointHere_3 ?_
    refine r_getI dX8_jointHere_4 fl_X8_174 rfl ?_
    rw [k0]
    refine r_icmpN_ge 40 dX8_jointHere_7 (by decide) (by omega) (by omega) (fun c_7 => ?_) (fun c_7 => by omega)
    refine r_iconst (v := (-1)) dX8_jointHere_40 (by decide) ?_
    refine r_iret dX8_jointHere_41 rfl ?_
    exact ⟨rfl, rfl⟩
  | succ m ih =>
    intro j hj
    have ca := q_isAt ok mb.2 (a := 6 * (9 + j)) (f := k.2.1) (t := k.2.2) (by omega) tk.2.1 tk.1 (no j (by omega)).2.2 (no j (by omega)).2.1 (r.2.2.1 j (by omega)).2.2
    rw [fnd_s]
    by_cases q : nm j = wd B k
    · rw [if_pos (decide_eq_true q)]
      rw [b2i_t (show wdL B k.2.1 k.2.2 = nm j from q.symm)] at ca
      refine r_iload_1 dX8_jointHere_2 ?_
      refine r_aload_0 dX8_jointHere_3 ?_
      refine r_getI dX8_jointHere_4 fl_X8_174 rfl ?_
      rw [k0]
      refine r_icmpN_ge 40 dX8_jointHere_7 (by decide) (by omega) (by omega) (fun c_7 => by omega) (fun c_7 => ?_)
      refine r_aload_0 dX8_jointHere_10 ?_
      refine r_bipush (v := nI 6) dX8_jointHere_11 (by decide) ?_
      refine r_bipush (v := nI 9) dX8_jointHere_13 (by decide) ?_
      refine r_iload_1 dX8_jointHere_15 ?_
      refine r_iadd dX8_jointHere_16 ?_
      rw [nI_ad9]
      refine r_imul dX8_jointHere_17 ?_
      rw [nI_mu9]
      refine r_aload_0 dX8_jointHere_18 ?_
      refine r_getI dX8_jointHere_19 fl_X8_121 rfl ?_
      rw [mk.2.1]
      refine r_aload_0 dX8_jointHere_22 ?_
      refine r_getI dX8_jointHere_23 fl_X8_114 rfl ?_
      rw [mk.2.2.1]
      refine r_cV3 mX8_isAt dX8_jointHere_26 ml_X8_177 mo_X8_isAt rfl ca (by decide) ?_
      refine r_if_eq 34 dX8_jointHere_29 (by decide) (fun c_29 => by exact absurd c_29 (by decide)) (fun c_29 => ?_)
      refine r_iload_1 dX8_jointHere_32 ?_
      refine r_iret dX8_jointHere_33 rfl ?_
      exact ⟨rfl, rfl⟩
    · rw [if_neg (by rw [decide_eq_true_iff]; exact q)]
      rw [b2i_f (show ¬ wdL B k.2.1 k.2.2 = nm j from fun z => q z.symm)] at ca
      refine r_iload_1 dX8_jointHere_2 ?_
      refine r_aload_0 dX8_jointHere_3 ?_
      refine r_getI dX8_jointHere_4 fl_X8_174 rfl ?_
      rw [k0]
      refine r_icmpN_ge 40 dX8_jointHere_7 (by decide) (by omega) (by omega) (fun c_7 => by omega) (fun c_7 => ?_)
      refine r_aload_0 dX8_jointHere_10 ?_
      refine r_bipush (v := nI 6) dX8_jointHere_11 (by decide) ?_
      refine r_bipush (v := nI 9) dX8_jointHere_13 (by decide) ?_
      refine r_iload_1 dX8_jointHere_15 ?_
      refine r_iadd dX8_jointHere_16 ?_
      rw [nI_ad9]
      refine r_imul dX8_jointHere_17 ?_
      rw [nI_mu9]
      refine r_aload_0 dX8_jointHere_18 ?_
      refine r_getI dX8_jointHere_19 fl_X8_121 rfl ?_
      rw [mk.2.1]
      refine r_aload_0 dX8_jointHere_22 ?_
      refine r_getI dX8_jointHere_23 fl_X8_114 rfl ?_
      rw [mk.2.2.1]
      refine r_cV3 mX8_isAt dX8_jointHere_26 ml_X8_177 mo_X8_isAt rfl ca (by decide) ?_
      refine r_if_eq 34 dX8_jointHere_29 (by decide) (fun c_29 => ?_) (fun c_29 => by exact absurd rfl c_29)
      refine r_iincN_1 dX8_jointHere_34 ?_
      refine r_goto 2 dX8_jointHere_37 (by decide) ?_
      exact ih (j + 1) (by omega)
set_option maxRecDepth 100000 in
set_option maxHeartbeats 4000000 in
theorem q_jh {h : PH} {n : Nat} {B : Nat → Nat} (ok : OKB n B) (mb : MB h n B) {k : TK} (mk : MK h B k) (tk : TKok n k) {t : NT} {nm : NMS} {E : Nat} (r : RdG h t nm E) (hJ : NT.J t ≤ 9) (no : nmOK t nm) : ConF mX8_jointHere 2 [.ref 74] h (some (.int (oI (jH nm (NT.J t) (wd B k))))) h := by
  refine Con.mk (by decide) ?_
  show RT _ _ 0 [some (.ref 74), none] [] _ _
  refine r_iconst (v := nI 0) dX8_jointHere_0 (by decide) ?_
  refine r_istore_1 dX8_jointHere_1 ?_
  exact jh_loop ok mb mk tk r hJ no (NT.J t) 0 (by omega)

def twF : Nat → Prop := fun k => tkF k ∨ k = 27
theorem twF_r {k : Nat} (h : twF k) : 18 < k ∧ k ≤ 27 := by unfold twF tkF at h; omega
theorem tkM_2 {k : Nat} (h : k ≤ 5) : tkM k = 3 ↔ k = 2 := (by decide : ∀ k, k ≤ 5 → (tkM k = 3 ↔ k = 2)) k h
theorem tkM_c {k : Nat} (h : k ≤ 5) : (tkM k = 44 ↔ k = 4) ∧ (tkM k = 59 ↔ k = 3) ∧ (tkM k = 0 ↔ k = 0) := (by decide : ∀ k, k ≤ 5 → ((tkM k = 44 ↔ k = 4) ∧ (tkM k = 59 ↔ k = 3) ∧ (tkM k = 0 ↔ k = 0))) k h
theorem in_32 {v lo hi : Int32} : (lo.toInt64 ≤ v.toInt64 ∧ v.toInt64 ≤ hi.toInt64) ↔ (lo ≤ v ∧ v ≤ hi) := by rw [fa_wide_le, fa_wide_le]
set_option maxRecDepth 100000 in
set_option maxHeartbeats 4000000 in
theorem q_whole {h : PH} {n : Nat} {B : Nat → Nat} (ok : OKB n B) (mb : MB h n B) {k : TK} (mk : MK h B k) (g : TGd n B k) (lo hi : Int32) : Con mX8_takesWhole 3 [.ref 74, .int lo, .int hi] h (fun a h' => a = some (.int (b2i (wF B k lo hi = 0))) ∧ ((wF B k lo hi = 0 → MB h' n B ∧ MK h' B (nx B n k) ∧ h'.1 74 27 = wv B k ∧ FM noS twF h h') ∧ (wF B k lo hi ≠ 0 → h' = erH h (wF B k lo hi) k))) := by
  have k4 := g.1.2.2.2
  have m1 := mk.1
  refine Con.mk (by decide) ?_
  show RT _ _ 0 [some (.ref 74), some (.int lo), some (.int hi)] [] _ _
  by_cases h1 : k.1 = 2
  · have mw := mk.2.2.2 h1
    by_cases hb : lo ≤ wv B k ∧ wv B k ≤ hi
    · have e : wF B k lo hi = 0 := by unfold wF; rw [if_pos h1, if_pos hb]
      have f1 : FM noS twF h (pI h 74 27 (wv B k)) := FM.rf.pF (Or.inr rfl)
      have mb1 : MB (pI h 74 27 (wv B k)) n B := mb.fm f1 (by unfold twF tkF; omega)
      have mk1 : (pI h 74 27 (wv B k)).1 74 20 = nI k.2.2 := (pI_ne 74 20 (Or.inr (by decide))).trans mk.2.2.1
      refine r_aload_0 dX8_takesWhole_0 ?_
      refine r_getI dX8_takesWhole_1 fl_X8_124 rfl ?_
      rw [m1]
      refine r_iconst (v := 3) dX8_takesWhole_4 (by decide) ?_
      refine r_icmp_eq 14 dX8_takesWhole_5 (by decide) (fun c_5 => ?_) (fun c_5 => by exact absurd ((tkM_2 k4).mpr h1) c_5)
      refine r_aload_0 dX8_takesWhole_14 ?_
      refine r_getI dX8_takesWhole_15 fl_X8_139 rfl ?_
      rw [mw]
      refine r_i2l dX8_takesWhole_18 ?_
      refine r_iload_1 dX8_takesWhole_19 ?_
      refine r_i2l dX8_takesWhole_20 ?_
      refine r_iload_2 dX8_takesWhole_21 ?_
      refine r_i2l dX8_takesWhole_22 ?_
      refine r_cS3 mX8_in dX8_takesWhole_23 ml_X8_131 mo_X8_in (q_in _ _ _ _) (by decide) ?_
      rw [b2i_c in_32, b2i_t hb]
      refine r_if_ne 35 dX8_takesWhole_26 (by decide) (fun c_26 => ?_) (fun c_26 => by exact absurd c_26 (by decide))
      refine r_aload_0 dX8_takesWhole_35 ?_
      refine r_aload_0 dX8_takesWhole_36 ?_
      refine r_getI dX8_takesWhole_37 fl_X8_139 rfl ?_
      rw [mw]
      refine r_putI dX8_takesWhole_40 fl_X8_185 rfl rfl rfl ?_
      refine r_aload_0 dX8_takesWhole_43 ?_
      refine r_cWQ0 mX8_goesOn dX8_takesWhole_44 ml_X8_188 mo_X8_goesOn rfl (q_goesOn ok mb1 g.1.2.1 mk1) (by decide) (fun h2 p2 => ?_)
      refine r_iconst (v := 1) dX8_takesWhole_47 (by decide) ?_
      refine r_zret dX8_takesWhole_48 rfl rfl ?_
      exact ⟨congrArg (fun x => some (Value.int x)) (b2i_t e).symm, fun _ => ⟨mb1.fm p2.2 (by unfold tkF; omega), p2.1, (p2.2.1 27 (by unfold tkF; omega)).trans pI_eq, f1.tr (p2.2.wk (fun _ q => q) (fun _ q => Or.inl q))⟩, fun q => absurd e q⟩
    · have e : wF B k lo hi = 2 := by unfold wF; rw [if_pos h1, if_neg hb]
      rw [e]
      refine r_aload_0 dX8_takesWhole_0 ?_
      refine r_getI dX8_takesWhole_1 fl_X8_124 rfl ?_
      rw [m1]
      refine r_iconst (v := 3) dX8_takesWhole_4 (by decide) ?_
      refine r_icmp_eq 14 dX8_takesWhole_5 (by decide) (fun c_5 => ?_) (fun c_5 => by exact absurd ((tkM_2 k4).mpr h1) c_5)
      refine r_aload_0 dX8_takesWhole_14 ?_
      refine r_getI dX8_takesWhole_15 fl_X8_139 rfl ?_
      rw [mw]
      refine r_i2l dX8_takesWhole_18 ?_
      refine r_iload_1 dX8_takesWhole_19 ?_
      refine r_i2l dX8_takesWhole_20 ?_
      refine r_iload_2 dX8_takesWhole_21 ?_
      refine r_i2l dX8_takesWhole_22 ?_
      refine r_cS3 mX8_in dX8_takesWhole_23 ml_X8_131 mo_X8_in (q_in _ _ _ _) (by decide) ?_
      rw [b2i_c in_32, b2i_f hb]
      refine r_if_ne 35 dX8_takesWhole_26 (by decide) (fun c_26 => by exact absurd rfl c_26) (fun c_26 => ?_)
      refine r_aload_0 dX8_takesWhole_29 ?_
      refine r_iconst (v := 2) dX8_takesWhole_30 (by decide) ?_
      refine r_cV1 mX8_errs dX8_takesWhole_31 ml_X8_181 mo_X8_errs rfl (q_errs mk 2) (by decide) ?_
      refine r_zret dX8_takesWhole_34 rfl rfl ?_
      exact ⟨congrArg (fun x => some (Value.int x)) (b2i_f (by decide)).symm, fun q => absurd q (by decide), fun _ => rfl⟩
  · have e : wF B k lo hi = 1 := by unfold wF; rw [if_neg h1]
    rw [e]
    refine r_aload_0 dX8_takesWhole_0 ?_
    refine r_getI dX8_takesWhole_1 fl_X8_124 rfl ?_
    rw [m1]
    refine r_iconst (v := 3) dX8_takesWhole_4 (by decide) ?_
    refine r_icmp_eq 14 dX8_takesWhole_5 (by decide) (fun c_5 => by exact absurd ((tkM_2 k4).mp c_5) h1) (fun c_5 => ?_)
    refine r_aload_0 dX8_takesWhole_8 ?_
    refine r_iconst (v := 1) dX8_takesWhole_9 (by decide) ?_
    refine r_cV1 mX8_errs dX8_takesWhole_10 ml_X8_181 mo_X8_errs rfl (q_errs mk 1) (by decide) ?_
    refine r_zret dX8_takesWhole_13 rfl rfl ?_
    exact ⟨congrArg (fun x => some (Value.int x)) (b2i_f (by decide)).symm, fun q => absurd q (by decide), fun _ => rfl⟩

set_option maxRecDepth 100000 in
set_option maxHeartbeats 4000000 in
theorem tn_loop {n : Nat} {B : Nat → Nat} (ok : OKB n B) {k : TK} (tk : TKok n k) {J : Nat} (hJ : J < 9) (h0 : PH) (mb : MB h0 n B) (mk : MK h0 B k) (k0 : h0.1 74 25 = nI J) {Q : Option Value → PH → Prop} : ∀ (m x : Nat) (h : PH), x + m = 6 → (∀ y, y < x → h.1 78 (6 * (9 + J) + y) = nI ((wd B k).getD y 0)) → (∀ y, y < 6 * (9 + J) → h.1 78 y = h0.1 78 y) → h.2 = h0.2 → FM (fun y => y = 78) noF h0 h → (∀ h', h'.2 = h0.2 → (∀ y, y < 6 → h'.1 78 (6 * (9 + J) + y) = nI ((wd B k).getD y 0)) → (∀ y, y < 6 * (9 + J) → h'.1 78 y = h0.1 78 y) → FM (fun y => y = 78) noF h0 h' → RT mX8_takesNew 8 90 [some (.ref 74), none] [] h' Q) → RT mX8_takesNew 8 33 [some (.ref 74), some (.int (nI x))] [] h Q := by
  have hn := ok.1
  intro m
  induction m with
  | zero =>
    intro x h hx h1 h2 h22 fr K
    have : x = 6 := by omega
    subst this
    refine r_iload_1 dX8_takesNew_33 ?_
    refine r_bipush (v := nI 6) dX8_takesNew_34 (by decide) ?_
    refine r_icmpN_ge 90 dX8_takesNew_36 (by decide) (by omega) (by omega) (fun c_36 => ?_) (fun c_36 => by omega)
    refine RT.sub (lv' := [some (.ref 74), none]) (by simp [lsub]) ?_
    exact K h h22 h1 h2 fr
  | succ m ih =>
    intro x h hx h1 h2 h22 fr K
    have e25 : h.1 74 25 = nI J := (fr.1 25 id).trans k0
    have e19 : h.1 74 19 = nI k.2.1 := (fr.1 19 id).trans mk.2.1
    have e20 : h.1 74 20 = nI k.2.2 := (fr.1 20 id).trans mk.2.2.1
    have tkl := tk.1
    have tkn := tk.2.1
    have go : ∀ v, v = nI ((wd B k).getD x 0) → RT mX8_takesNew 8 33 [some (.ref 74), some (.int (nI (x + 1)))] [] (pI h 78 (6 * (9 + J) + x) v) Q := fun v ev => by
      refine ih (x + 1) _ (by omega) (fun y hy => ?_) (fun y hy => ?_) h22 (fr.pI (by decide) rfl) K
      · by_cases q : y = x
        · rw [q, pI_eq]; exact ev
        · rw [pI_ne 78 _ (Or.inr (by omega))]; exact h1 y (by omega)
      · rw [pI_ne 78 _ (Or.inr (by omega))]; exact h2 y hy
    by_cases hs : k.2.1 + x < k.2.2
    · skip
      refine r_iload_1 dX8_takesNew_33 ?_
      refine r_bipush (v := nI 6) dX8_takesNew_34 (by decide) ?_
      refine r_icmpN_ge 90 dX8_takesNew_36 (by decide) (by omega) (by omega) (fun c_36 => by omega) (fun c_36 => ?_)
      refine r_aload_0 dX8_takesNew_39 ?_
      refine r_getR (a := 78) dX8_takesNew_40 fl_X8_25 rfl rfl ?_
      refine r_bipush (v := nI 6) dX8_takesNew_43 (by decide) ?_
      refine r_bipush (v := nI 9) dX8_takesNew_45 (by decide) ?_
      refine r_aload_0 dX8_takesNew_47 ?_
      refine r_getI dX8_takesNew_48 fl_X8_174 rfl ?_
      rw [e25]
      refine r_iadd dX8_takesNew_51 ?_
      rw [nI_ad9]
      refine r_imul dX8_takesNew_52 ?_
      rw [nI_mu9]
      refine r_iload_1 dX8_takesNew_53 ?_
      refine r_iadd dX8_takesNew_54 ?_
      rw [nI_ad9]
      refine r_aload_0 dX8_takesNew_55 ?_
      refine r_getI dX8_takesNew_56 fl_X8_121 rfl ?_
      rw [e19]
      refine r_iload_1 dX8_takesNew_59 ?_
      refine r_iadd dX8_takesNew_60 ?_
      rw [nI_ad9]
      refine r_aload_0 dX8_takesNew_61 ?_
      refine r_getI dX8_takesNew_62 fl_X8_114 rfl ?_
      rw [e20]
      refine r_icmpN_ge 82 dX8_takesNew_65 (by decide) (by omega) (by omega) (fun c_65 => by omega) (fun c_65 => ?_)
      refine r_aload_0 dX8_takesNew_68 ?_
      refine r_getR (a := 75) dX8_takesNew_69 fl_X8_15 rfl rfl ?_
      refine r_aload_0 dX8_takesNew_72 ?_
      refine r_getI dX8_takesNew_73 fl_X8_121 rfl ?_
      rw [e19]
      refine r_iload_1 dX8_takesNew_76 ?_
      refine r_iadd dX8_takesNew_77 ?_
      rw [nI_ad9]
      refine r_ialdN dX8_takesNew_78 rfl (by omega) ?_
      rw [show h.1 75 (k.2.1 + x) = nI (B (k.2.1 + x)) by rw [(fr.2.1 75 (by decide) (by decide)).1]; exact mb.2 _ (by omega)]
      refine r_goto 83 dX8_takesNew_79 (by decide) ?_
      refine r_iastN dX8_takesNew_83 rfl (by omega) ?_
      refine r_iincN_1 dX8_takesNew_84 ?_
      refine r_goto 33 dX8_takesNew_87 (by decide) ?_
      exact go _ (by unfold wd; rw [wdL_get (by omega)])
    · skip
      refine r_iload_1 dX8_takesNew_33 ?_
      refine r_bipush (v := nI 6) dX8_takesNew_34 (by decide) ?_
      refine r_icmpN_ge 90 dX8_takesNew_36 (by decide) (by omega) (by omega) (fun c_36 => by omega) (fun c_36 => ?_)
      refine r_aload_0 dX8_takesNew_39 ?_
      refine r_getR (a := 78) dX8_takesNew_40 fl_X8_25 rfl rfl ?_
      refine r_bipush (v := nI 6) dX8_takesNew_43 (by decide) ?_
      refine r_bipush (v := nI 9) dX8_takesNew_45 (by decide) ?_
      refine r_aload_0 dX8_takesNew_47 ?_
      refine r_getI dX8_takesNew_48 fl_X8_174 rfl ?_
      rw [e25]
      refine r_iadd dX8_takesNew_51 ?_
      rw [nI_ad9]
      refine r_imul dX8_takesNew_52 ?_
      rw [nI_mu9]
      refine r_iload_1 dX8_takesNew_53 ?_
      refine r_iadd dX8_takesNew_54 ?_
      rw [nI_ad9]
      refine r_aload_0 dX8_takesNew_55 ?_
      refine r_getI dX8_takesNew_56 fl_X8_121 rfl ?_
      rw [e19]
      refine r_iload_1 dX8_takesNew_59 ?_
      refine r_iadd dX8_takesNew_60 ?_
      rw [nI_ad9]
      refine r_aload_0 dX8_takesNew_61 ?_
      refine r_getI dX8_takesNew_62 fl_X8_114 rfl ?_
      rw [e20]
      refine r_icmpN_ge 82 dX8_takesNew_65 (by decide) (by omega) (by omega) (fun c_65 => ?_) (fun c_65 => by omega)
      refine r_iconst (v := 0) dX8_takesNew_82 (by decide) ?_
      refine r_iastN dX8_takesNew_83 rfl (by omega) ?_
      refine r_iincN_1 dX8_takesNew_84 ?_
      refine r_goto 33 dX8_takesNew_87 (by decide) ?_
      exact go _ (by rw [getD_out (by unfold wd; rw [wdL_len]; omega)]; rfl)
set_option maxRecDepth 100000 in
set_option maxHeartbeats 4000000 in
theorem q_new {h : PH} {n : Nat} {B : Nat → Nat} (ok : OKB n B) {k : TK} {t : NT} {nm : NMS} (c : RMd h n B k t nm) (g : TGd n B k) (hl : ∀ e, e < NT.E t → NT.lc t e ≤ 6) (hJ : NT.J t < 9) (no : nmOK t nm) : Con mX8_takesNew 8 [.ref 74] h (fun a h' => a = some (.int (b2i (nF B (nx B n k) t nm = 0))) ∧ ((nF B (nx B n k) t nm = 0 → RMd h' n B (nx B n (nx B n k)) t nm ∧ ∀ x, x < 6 → h'.1 78 (6 * (9 + NT.J t) + x) = nI ((wd B (nx B n k)).getD x 0)) ∧ (nF B (nx B n k) t nm ≠ 0 → h'.1 74 23 = nF B (nx B n k) t nm ∧ h'.1 74 24 = nI (nx B n k).2.1) ∧ FR h h')) := by
  obtain ⟨mb, mk, rd⟩ := c
  have g1 := g.nx.1
  refine Con.mk (by decide) ?_
  show RT _ _ 0 [some (.ref 74), none] [] _ _
  by_cases h1 : isNm B (nx B n k)
  · have wo := wd_ok g1 h1
    cases hj : jH nm (NT.J t) (wd B (nx B n k)) with
    | none =>
      have e : nF B (nx B n k) t nm = 0 := by unfold nF; rw [if_pos h1, if_pos hj]
      refine r_aload_0 dX8_takesNew_0 ?_
      refine r_cWQ0 mX8_goesOn dX8_takesNew_1 ml_X8_188 mo_X8_goesOn rfl (q_goesOn ok mb g.1.2.1 mk.2.2.1) (by decide) (fun h2 p2 => ?_)
      obtain ⟨mk2, f2⟩ := p2
      have mb2 := mb.fm f2 (by unfold tkF; omega)
      have rd2 := rd.fm f2 (by unfold tkF; omega) (by unfold tkF; omega)
      have r2 : FR h h2 := fr_fm f2 (fun k q => tkF_r q)
      have mk2 : MK h2 B (nx B n k) := mk2
      refine r_aload_0 dX8_takesNew_4 ?_
      refine r_cV0 mX8_isName dX8_takesNew_5 ml_X8_191 mo_X8_isName rfl (q_isName ok mb2 mk2 g1.1) (by decide) ?_
      rw [b2i_t h1]
      refine r_if_ne 17 dX8_takesNew_8 (by decide) (fun c_8 => ?_) (fun c_8 => by exact absurd c_8 (by decide))
      refine r_aload_0 dX8_takesNew_17 ?_
      refine r_cV0 mX8_jointHere dX8_takesNew_18 ml_X8_195 mo_X8_jointHere rfl (by have q := q_jh ok mb2 mk2 g1.1 rd2 (by omega) no; rw [hj] at q; exact q : ConF mX8_jointHere 2 [.ref 74] h2 (some (.int (-1))) h2) (by decide) ?_
      refine r_iconst (v := (-1)) dX8_takesNew_21 (by decide) ?_
      refine r_icmp_eq 31 dX8_takesNew_22 (by decide) (fun c_22 => ?_) (fun c_22 => by exact absurd rfl c_22)
      refine r_iconst (v := nI 0) dX8_takesNew_31 (by decide) ?_
      refine r_istore_1 dX8_takesNew_32 ?_
      refine tn_loop ok g1.1 hJ h2 mb2 mk2 rd2.1 6 0 h2 (by omega) (fun y hy => by omega) (fun y hy => rfl) rfl FM.rf (fun h3 s22 s3 s4 f3 => ?_)
      have mb3 : MB h3 n B := ⟨(f3.1 18 id).trans mb2.1, fun i hi => by rw [(f3.2.1 75 (by decide) (by decide)).1]; exact mb2.2 i hi⟩
      have m20 : h3.1 74 20 = nI (nx B n k).2.2 := (f3.1 20 id).trans mk2.2.2.1
      have rd3 : RdG h3 t nm (NT.E t) := by
        obtain ⟨r1, r2, r3, r4⟩ := rd2
        have z : ∀ y, y ≠ 74 → y ≠ 78 → h3.1 y = h2.1 y := fun y a b => (f3.2.1 y a b).1
        refine ⟨(f3.1 25 id).trans r1, (f3.1 26 id).trans r2, fun j hj => ?_, fun e he => ?_⟩
        · rw [z 76 (by decide) (by decide), z 77 (by decide) (by decide)]
          exact ⟨(r3 j hj).1, (r3 j hj).2.1, fun x hx => by rw [s4 _ (by omega)]; exact (r3 j hj).2.2 x hx⟩
        · rw [z 79 (by decide) (by decide), z 80 (by decide) (by decide), z 81 (by decide) (by decide), z 82 (by decide) (by decide), z 83 (by decide) (by decide), z 84 (by decide) (by decide)]; exact r4 e he
      have r3 : FR h2 h3 := ⟨fun k _ => f3.1 k id, fun y => by
        by_cases e : y = 74
        · rw [e]; exact f3.2.2 id
        · by_cases e2 : y = 78
          · rw [s22]
          · exact (f3.2.1 y e e2).2, fun y x a b => by
        by_cases e2 : y = 78
        · subst e2
          exact s4 x (by have : x < 54 := by rcases b with b | b | b; omega; omega; exact b
                         omega)
        · exact congrFun (f3.2.1 y a e2).1 x⟩
      refine r_aload_0 dX8_takesNew_90 ?_
      refine r_cWQ0 mX8_goesOn dX8_takesNew_91 ml_X8_188 mo_X8_goesOn rfl (q_goesOn ok mb3 g1.1.2.1 m20) (by decide) (fun h4 p4 => ?_)
      refine r_iconst (v := 1) dX8_takesNew_94 (by decide) ?_
      refine r_zret dX8_takesNew_95 rfl rfl ?_
      refine ⟨congrArg (fun x => some (Value.int x)) (b2i_t e).symm, fun _ => ⟨⟨mb3.fm p4.2 (by unfold tkF; omega), p4.1, rd3.fm p4.2 (by unfold tkF; omega) (by unfold tkF; omega)⟩, fun x hx => ?_⟩, fun q => absurd e q, (r2.tr r3).tr (fr_fm p4.2 (fun k q => tkF_r q))⟩
      rw [(p4.2.2.1 78 (by decide) id).1]; exact s3 x hx
    | some j =>
      have hj9 := jH_lt hj
      have e : nF B (nx B n k) t nm = 3 := by unfold nF; rw [if_pos h1, if_neg (by rw [hj]; exact fun q => by cases q)]
      rw [e]
      refine r_aload_0 dX8_takesNew_0 ?_
      refine r_cWQ0 mX8_goesOn dX8_takesNew_1 ml_X8_188 mo_X8_goesOn rfl (q_goesOn ok mb g.1.2.1 mk.2.2.1) (by decide) (fun h2 p2 => ?_)
      obtain ⟨mk2, f2⟩ := p2
      have mb2 := mb.fm f2 (by unfold tkF; omega)
      have rd2 := rd.fm f2 (by unfold tkF; omega) (by unfold tkF; omega)
      have r2 : FR h h2 := fr_fm f2 (fun k q => tkF_r q)
      have mk2 : MK h2 B (nx B n k) := mk2
      refine r_aload_0 dX8_takesNew_4 ?_
      refine r_cV0 mX8_isName dX8_takesNew_5 ml_X8_191 mo_X8_isName rfl (q_isName ok mb2 mk2 g1.1) (by decide) ?_
      rw [b2i_t h1]
      refine r_if_ne 17 dX8_takesNew_8 (by decide) (fun c_8 => ?_) (fun c_8 => by exact absurd c_8 (by decide))
      refine r_aload_0 dX8_takesNew_17 ?_
      refine r_cV0 mX8_jointHere dX8_takesNew_18 ml_X8_195 mo_X8_jointHere rfl (by have q := q_jh ok mb2 mk2 g1.1 rd2 (by omega) no; rw [hj] at q; exact q : ConF mX8_jointHere 2 [.ref 74] h2 (some (.int (nI j))) h2) (by decide) ?_
      refine r_iconst (v := (-1)) dX8_takesNew_21 (by decide) ?_
      refine r_icmp_eq 31 dX8_takesNew_22 (by decide) (fun c_22 => by exact absurd c_22 (nI_ne_m1 (by omega))) (fun c_22 => ?_)
      refine r_aload_0 dX8_takesNew_25 ?_
      refine r_iconst (v := 3) dX8_takesNew_26 (by decide) ?_
      refine r_cV1 mX8_errs dX8_takesNew_27 ml_X8_181 mo_X8_errs rfl (q_errs mk2 3) (by decide) ?_
      refine r_zret dX8_takesNew_30 rfl rfl ?_
      exact ⟨congrArg (fun x => some (Value.int x)) (b2i_f (by decide)).symm, fun q => absurd q (by decide), fun _ => erH_b, erH_f r2⟩
  · have e : nF B (nx B n k) t nm = 1 := by unfold nF; rw [if_neg h1]
    rw [e]
    refine r_aload_0 dX8_takesNew_0 ?_
    refine r_cWQ0 mX8_goesOn dX8_takesNew_1 ml_X8_188 mo_X8_goesOn rfl (q_goesOn ok mb g.1.2.1 mk.2.2.1) (by decide) (fun h2 p2 => ?_)
    obtain ⟨mk2, f2⟩ := p2
    have mb2 := mb.fm f2 (by unfold tkF; omega)
    have rd2 := rd.fm f2 (by unfold tkF; omega) (by unfold tkF; omega)
    have r2 : FR h h2 := fr_fm f2 (fun k q => tkF_r q)
    have mk2 : MK h2 B (nx B n k) := mk2
    refine r_aload_0 dX8_takesNew_4 ?_
    refine r_cV0 mX8_isName dX8_takesNew_5 ml_X8_191 mo_X8_isName rfl (q_isName ok mb2 mk2 g1.1) (by decide) ?_
    rw [b2i_f h1]
    refine r_if_ne 17 dX8_takesNew_8 (by decide) (fun c_8 => by exact absurd rfl c_8) (fun c_8 => ?_)
    refine r_aload_0 dX8_takesNew_11 ?_
    refine r_iconst (v := 1) dX8_takesNew_12 (by decide) ?_
    refine r_cV1 mX8_errs dX8_takesNew_13 ml_X8_181 mo_X8_errs rfl (q_errs mk2 1) (by decide) ?_
    refine r_zret dX8_takesNew_16 rfl rfl ?_
    exact ⟨congrArg (fun x => some (Value.int x)) (b2i_f (by decide)).symm, fun q => absurd q (by decide), fun _ => erH_b, erH_f r2⟩

