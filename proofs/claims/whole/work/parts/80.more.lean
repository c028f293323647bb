/-! ===== both: on paper, with more drawn; fire ===== -/
theorem NetC.dr {h : PH} {o : Nat} {t : NT} (c : NetC h o t) {j : Nat} (y : Int32) : NetC (pI h (o + 2) j y) o (setDr t (fupd (NT.dr t) j y)) := by
  have z : (pI h (o + 2) j y).1 o = h.1 o := funext fun k => pI_ne o k (Or.inl (by omega))
  have g : ∀ i, i ≠ 2 → (pI h (o + 2) j y).1 (o + i) = h.1 (o + i) := fun i hi => funext fun k => pI_ne _ k (Or.inl (by omega))
  obtain ⟨c1, c2, c3, c4, c5, c6⟩ := c
  refine ⟨by rw [z]; exact c1, by rw [z]; exact c2, by rw [z]; exact c3, by rw [z]; exact c4, fun k hk => ⟨?_, by rw [g 3 (by decide)]; exact (c5 k hk).2⟩, fun e he => ?_⟩
  · show (pI h (o + 2) j y).1 (o + 2) k = fupd (NT.dr t) j y k
    by_cases q : k = j
    · rw [q, fupd_s]; exact pI_eq
    · rw [fupd_n q, pI_ne _ k (Or.inr q)]; exact (c5 k hk).1
  · rw [g 4 (by decide), g 5 (by decide), g 6 (by decide), g 7 (by decide), g 8 (by decide), g 9 (by decide)]; exact c6 e he
theorem ofB {d : Int32} (h0 : 0 ≤ d.toInt) : ∃ n, n < 2 ^ 31 ∧ d = nI n := by
  have := d.toInt_lt
  refine ⟨d.toInt.toNat, by omega, ?_⟩
  rw [fa_eq, nI_toInt (by omega)]; omega
theorem dr100 {d : Int32} (h0 : 0 ≤ d.toInt) (h1 : d.toInt ≤ 60) : d * 100 / 100 = d := by
  obtain ⟨n, hn, rfl⟩ := ofB h0
  rw [nI_toInt hn] at h1
  exact (by decide +kernel : ∀ n : Nat, n < 61 → nI n * 100 / 100 = nI n) n (by omega)
theorem nI_ad9 {a b : Nat} : nI a + nI b = nI (a + b) := by
  show Int32.ofNat a + Int32.ofNat b = Int32.ofNat (a + b)
  exact (Int32.ofNat_add a b).symm
theorem okT.setDr {t : NT} (ok : okT t) {f : Nat → Int32} (hf : ∀ j, j < NT.J t → 0 ≤ (f j).toInt ∧ (f j).toInt ≤ 1000) : okT (setDr t f) := ⟨ok.1, ok.2.1, ok.2.2.1, ok.2.2.2.1, hf, ok.2.2.2.2.2⟩
theorem TxOK.more {t : NT} (tx : TxOK t) (j : Nat) {n : Nat} (hn : n ≤ 60) : okT (moreT t j (nI n)) := by
  refine tx.1.setDr (fun k hk => ?_)
  have b1 := (tx.1.2.2.2.2.1 k hk).1
  have b2 := tx.2.2.2.1 k hk
  by_cases q : k = j
  · subst q
    rw [fupd_s]
    obtain ⟨d, hd, e⟩ := ofB b1
    rw [e, nI_toInt hd] at b2
    rw [e, nI_ad9, nI_toInt (by omega)]; omega
  · rw [fupd_n q]; omega
theorem nI_jn {a b : Nat} (ha : a < 2 ^ 31) (hb : b < 2 ^ 31) (h : nI a = nI b) : a = b := by
  rw [fa_eq, nI_toInt ha, nI_toInt hb] at h; omega
def slG : Nat → Prop := fun k => 28 ≤ k ∧ k < 51
theorem slF_G {k : Nat} (h : slF k) : slG k := by unfold slF at h; unfold slG; omega
theorem RawM.fm {h h' : PH} {t : NT} (r : RawM h t) (f : FM slS slG h h') : RawM h' t := by
  have z : ∀ k, k < 28 → h'.1 74 k = h.1 74 k := fun k hk => f.1 k (fun q => by unfold slG at q; omega)
  have g : ∀ y, y < 85 → y ≠ 74 → h'.1 y = h.1 y := fun y hy h0 => (f.2.1 y h0 (fun q => by unfold slS at q; omega)).1
  unfold RawM; rw [z 6 (by omega), z 7 (by omega), z 17 (by omega), g 76 (by omega) (by omega), g 77 (by omega) (by omega), g 79 (by omega) (by omega), g 80 (by omega) (by omega), g 81 (by omega) (by omega), g 82 (by omega) (by omega), g 83 (by omega) (by omega), g 84 (by omega) (by omega)]; exact r
theorem FM.toG {h h' : PH} (f : FM slS slF h h') : FM slS slG h h' := f.wk (fun _ q => q) (fun _ q => slF_G q)
/-- a net whose draws alone are other, on the reference's paper -/
theorem RawM.dr {h : PH} {t : NT} (r : RawM h t) (tx : TxOK t) {f : Nat → Int32} (hf : ∀ j, 0 < j → j < NT.J t → drE h j = f j) : NetM h (setDr t f) := by
  obtain ⟨r1, r2, r3, r4, r5⟩ := r
  refine ⟨r1, r2, (r4 0 (by have := tx.2.1; omega)).1, r3, hf, fun j hj => (r4 j hj).2, fun e he => ?_⟩
  obtain ⟨e1, e2, e3, e4, e5, e6⟩ := r5 e he
  exact ⟨e1, e2, e3, fun q => by rw [e4]; exact if_neg q, e5, e6⟩
theorem RawM.more {h : PH} {t : NT} (r : RawM h t) (tx : TxOK t) (h46 : h.1 74 46 = 100) {j : Nat} (hj : j < NT.J t) {n : Nat} : NetM (pI (pI h 74 44 (nI j)) 74 45 (nI n)) (moreT t j (nI n)) := by
  have fr : FM slS slG h (pI (pI h 74 44 (nI j)) 74 45 (nI n)) := (FM.rf.pF (by unfold slG; omega)).pF (by unfold slG; omega)
  refine (r.fm fr).dr tx (fun k h0 hk => ?_)
  have hJ9 := tx.1.2.1
  unfold drE
  rw [pI_eq, pI_ne 74 44 (Or.inr (by decide)), pI_eq, pI_ne 74 46 (Or.inr (by decide)), pI_ne 74 46 (Or.inr (by decide)), h46, pI_ne 76 k (Or.inl (by decide)), pI_ne 76 k (Or.inl (by decide)), (r.2.2.2.1 k hk).1, show tdM t k = NT.dr t k from if_neg (by omega), dr100 (tx.1.2.2.2.2.1 k hk).1 (tx.2.2.2.1 k hk)]
  by_cases q : k = j
  · rw [q, if_pos rfl, fupd_s]
  · rw [if_neg (fun e => q (nI_jn (by omega) (by omega) e)), fupd_n q, Int32.add_zero]
/-- what the reference laid anew, paper aside, is as it was -/
theorem MX.fm2 {h h' : PH} {t : NT} {nm : NMS} {ac : List NT} {ms : MES} (c : MX h t nm ac ms) (s : SolM h' t (solveS (snOf t))) (e44 : h'.1 74 44 = -1) (e46 : h'.1 74 46 = 100) (f : FM slS slG h h') (hJ : 0 < NT.J t) : MX h' t nm ac ms := by
  have z : ∀ k, k < 28 ∨ 50 < k → h'.1 74 k = h.1 74 k := fun k hk => f.1 k (fun q => by unfold slG at q; omega)
  have g : ∀ y, (y < 85 ∨ 93 < y) → y ≠ 74 → h'.1 y = h.1 y := fun y hy h0 => (f.2.1 y h0 (fun q => by unfold slS at q; omega)).1
  obtain ⟨c1, c2, c3, c4, c5, c6⟩ := c
  refine ⟨(z 6 (by omega)).trans c1, (z 7 (by omega)).trans c2, e44, e46, fun q => by omega, fun _ => ?_⟩
  obtain ⟨d1, -, d3, d4, d5⟩ := c6 hJ
  refine ⟨d1.fm f, s, ?_, ?_, ?_⟩
  · unfold NamM; rw [g 78 (by omega) (by omega)]; exact d3
  · unfold ActM; rw [z 51 (by omega), g 96 (by omega) (by omega), g 97 (by omega) (by omega), g 98 (by omega) (by omega)]; exact d4
  · unfold MeaM; rw [g 94 (by omega) (by omega), g 95 (by omega) (by omega)]; exact d5
/-- both said x; the class used its paper, the reference its own -/
theorem inv_paper2 {h h1 h2 : PH} {n : Nat} {bs : Nat → Int32} {tr fl wp : Int32} {t : NT} {nm : NMS} {ac : List NT} {ms : MES} (i1 : CT h n bs) (i2 : CE h tr fl wp) (i3 : CX h t nm ac ms) (i4 : MT h n bs) (i5 : ME h tr fl wp) {x : Int32} (hx : x ≠ 4) (p : PC h x h1) (f : FM slS slG (rfH h1 x) h2) (m : MX h2 t nm ac ms) : INV h2 := by
  have z : ∀ k, k < 28 → h2.1 74 k = (rfH h1 x).1 74 k := fun k hk => f.1 k (fun q => by unfold slG at q; omega)
  have p74 : h1.1 74 = h.1 74 := (p.kM 74 (by omega)).1
  refine inv_mk i1 i2 i4 i5 hx (p 0 (fun q => by have := q.1; omega)).1 ((p 1 (fun q => by have := q.1; omega)).1.trans (clH_1 (by decide))) ((i3.k clH_kC).pp p) (fun y hy => ?_) ((z 1 (by omega)).trans pI_eq) ?_ ?_ ?_ m
  · have := f.2.1 y (by omega) (fun q => by have := q.1; omega)
    exact ⟨this.1.trans (rfH_1 (by omega)), this.2⟩
  · rw [z 2 (by omega), rfH_f (by decide) (by decide) (by decide), p74]
  · rw [z 5 (by omega), rfH_f (by decide) (by decide) (by decide), p74]
  · rw [(f.2.1 75 (by omega) (fun q => by have := q.1; omega)).1, rfH_1 (by decide), (p.kM 75 (by omega)).1]
set_option maxRecDepth 100000 in
set_option maxHeartbeats 4000000 in
theorem k_more {h : PH} {t : NT} (tx : TxOK t) (nc : NetC h 15 t) {j : Nat} (hj : j < NT.J t) {n : Nat} (hn : n ≤ 60) : Con mX7_solveWithMore 6 [.ref 0, .int (nI j), .int (nI n)] h (fun a h' => a = none ∧ (SolC h' 41 (moreT t j (nI n)) (solveS (snOf (moreT t j (nI n)))) ∧ Fr pap h h')) := by
  have hJ9 := tx.1.2.1
  refine Con.mk (by decide) ?_
  show RT _ _ 0 [some (.ref 0), some (.int (nI j)), some (.int (nI n))] [] _ _
  refine r_aload_0 dX7_solveWithMore_0 ?_
  refine r_getR (a := 42) dX7_solveWithMore_1 fl_X7_41 rfl rfl ?_
  refine r_aload_0 dX7_solveWithMore_4 ?_
  refine r_getR (a := 15) dX7_solveWithMore_5 fl_X7_37 rfl rfl ?_
  refine r_cWQ1 mX2_copyFrom dX7_solveWithMore_8 ml_X7_83 mo_X2_copyFrom rfl (k_copy_42_15 h) (by decide) (fun h2 p2 => ?_)
  have nc2 : NetC h2 42 t := p2.net tx.1 nc
  have edr : h2.1 44 j = NT.dr t j := (nc2.2.2.2.2.1 j hj).1
  refine r_aload_0 dX7_solveWithMore_11 ?_
  refine r_getR (a := 42) dX7_solveWithMore_12 fl_X7_41 rfl rfl ?_
  refine r_getR (a := 44) dX7_solveWithMore_15 fl_X7_186 rfl rfl ?_
  refine r_iload_1 dX7_solveWithMore_18 ?_
  refine r_dup2ir dX7_solveWithMore_19 ?_
  refine r_ialdN dX7_solveWithMore_20 rfl (by omega) ?_
  rw [edr]
  refine r_iload_2 dX7_solveWithMore_21 ?_
  refine r_iadd dX7_solveWithMore_22 ?_
  refine r_iastN dX7_solveWithMore_23 rfl (by omega) ?_
  refine r_aload_0 dX7_solveWithMore_24 ?_
  refine r_getR (a := 41) dX7_solveWithMore_25 fl_X7_38 rfl rfl ?_
  refine r_cWQ0 mX6_solve dX7_solveWithMore_28 ml_X7_248 mo_X6_solve rfl (k_solve isW41 (tx.more j hn) (nc2.dr (NT.dr t j + nI n))) (by decide) (fun h3 p3 => ?_)
  obtain ⟨s3, f3⟩ := p3
  refine r_vret dX7_solveWithMore_31 rfl ?_
  exact ⟨rfl, s3, ((p2.2.2.2.2.wk (fun _ q => cp_pap q)).pI ⟨by omega, by omega⟩).tr (f3.wk (fun _ q => rg_pap q))⟩

set_option maxRecDepth 100000 in
set_option maxHeartbeats 4000000 in
theorem q_more {h : PH} {t : NT} (tx : TxOK t) (r : RawM h t) (h46 : h.1 74 46 = 100) {j : Nat} (hj : j < NT.J t) {n : Nat} (hn : n ≤ 60) : Con mX8_solvesWith 7 [.ref 74, .int (nI j), .int (nI n)] h (fun a h' => a = none ∧ (SolM h' (moreT t j (nI n)) (solveS (snOf (moreT t j (nI n)))) ∧ h'.1 74 46 = 100 ∧ FM slS slG h h')) := by
  refine Con.mk (by decide) ?_
  show RT _ _ 0 [some (.ref 74), some (.int (nI j)), some (.int (nI n))] [] _ _
  refine r_aload_0 dX8_solvesWith_0 ?_
  refine r_iload_1 dX8_solvesWith_1 ?_
  refine r_putI dX8_solvesWith_2 fl_X8_74 rfl rfl rfl ?_
  refine r_aload_0 dX8_solvesWith_5 ?_
  refine r_iload_2 dX8_solvesWith_6 ?_
  refine r_putI dX8_solvesWith_7 fl_X8_301 rfl rfl rfl ?_
  refine r_aload_0 dX8_solvesWith_10 ?_
  refine r_cWQ0 mX8_solves dX8_solvesWith_11 ml_X8_260 mo_X8_solves rfl (q_solves (tx.more j hn) (r.more tx h46 hj)) (by decide) (fun h1 p1 => ?_)
  obtain ⟨s1, f1⟩ := p1
  refine r_vret dX8_solvesWith_14 rfl ?_
  refine ⟨rfl, s1, ?_, ((FM.rf.pF (by unfold slG; omega)).pF (by unfold slG; omega)).tr f1.toG⟩
  rw [f1.1 46 (by unfold slF; omega), pI_ne 74 46 (Or.inr (by decide)), pI_ne 74 46 (Or.inr (by decide))]; exact h46

set_option maxRecDepth 100000 in
set_option maxHeartbeats 4000000 in
theorem q_again {h : PH} {t : NT} (tx : TxOK t) (r : RawM h t) (h46 : h.1 74 46 = 100) : Con mX8_solvesAgain 7 [.ref 74] h (fun a h' => a = none ∧ (SolM h' t (solveS (snOf t)) ∧ h'.1 74 44 = -1 ∧ h'.1 74 46 = 100 ∧ FM slS slG h h')) := by
  have fr : FM slS slG h (pI h 74 44 (-1)) := FM.rf.pF (by unfold slG; omega)
  have nc : NetM (pI h 74 44 (-1)) t := (r.fm fr).net tx pI_eq ((pI_ne 74 46 (Or.inr (by decide))).trans h46)
  refine Con.mk (by decide) ?_
  show RT _ _ 0 [some (.ref 74)] [] _ _
  refine r_aload_0 dX8_solvesAgain_0 ?_
  refine r_iconst (v := (-1)) dX8_solvesAgain_1 (by decide) ?_
  refine r_putI dX8_solvesAgain_2 fl_X8_74 rfl rfl rfl ?_
  refine r_aload_0 dX8_solvesAgain_5 ?_
  refine r_cWQ0 mX8_solves dX8_solvesAgain_6 ml_X8_260 mo_X8_solves rfl (q_solves tx.1 nc) (by decide) (fun h1 p1 => ?_)
  obtain ⟨s1, f1⟩ := p1
  refine r_vret dX8_solvesAgain_9 rfl ?_
  refine ⟨rfl, s1, ?_, ?_, fr.tr f1.toG⟩
  · rw [f1.1 44 (by unfold slF; omega)]; exact pI_eq
  · rw [f1.1 46 (by unfold slF; omega), pI_ne 74 46 (Or.inr (by decide))]; exact h46

