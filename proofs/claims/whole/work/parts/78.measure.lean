/-! ===== both: measure ===== -/
def adM (ms : MES) (j : Nat) (v : Int32) : MES := fun k => if k = j then some v else ms k
theorem CX.nt {h : PH} {t : NT} {nm : NMS} {ac : List NT} {ms : MES} (c : CX h t nm ac ms) {j : Nat} (h0 : 0 < j) (hj : j < NT.J t) {v : Int32} (hv : -900000 ≤ v.toInt ∧ v.toInt ≤ 900000) : CX (pI (pI (pI h 72 0 (h.1 72 0 ||| ((1 : Int32) <<< (nI j &&& 31)))) 73 j v) 72 2 0) t nm ac (adM ms j v) := by
  have g : ∀ y, y ≠ 72 → y ≠ 73 → (pI (pI (pI h 72 0 (h.1 72 0 ||| ((1 : Int32) <<< (nI j &&& 31)))) 73 j v) 72 2 0).1 y = h.1 y := fun y h1 h2 => funext fun k => (pI_ne y k (Or.inl h1)).trans ((pI_ne y k (Or.inl h2)).trans (pI_ne y k (Or.inl h1)))
  have f : Fr (fun y => y = 72 ∨ y = 73) h (pI (pI (pI h 72 0 (h.1 72 0 ||| ((1 : Int32) <<< (nI j &&& 31)))) 73 j v) 72 2 0) := ((Fr.rf.pI (Or.inl rfl)).pI (Or.inr rfl)).pI (Or.inl rfl)
  obtain ⟨c1, c2, c3, c4⟩ := c
  refine ⟨by rw [g 15 (by decide) (by decide)]; exact c1, by rw [g 15 (by decide) (by decide)]; exact c2, c3, fun hJ => ?_⟩
  obtain ⟨d1, d2, d3, d4, d5, d6, d7⟩ := c4 hJ
  have hJ9 := d1.1.2.1
  refine ⟨d1, d2, fun k x q => ?_, ?_, d5, ?_, ?_⟩
  · unfold adM at q
    by_cases e : k = j
    · rw [if_pos e] at q; cases q; exact ⟨by omega, by omega, hv⟩
    · rw [if_neg e] at q; exact d3 k x q
  · obtain ⟨s1, s2, s3, s4, s5, s6, s7, s8, s9⟩ := d4
    exact ⟨s1.fr f (fun j hj q => by omega), by rw [g 14 (by decide) (by decide)]; exact s2, by rw [g 14 (by decide) (by decide)]; exact s3, by rw [g 14 (by decide) (by decide)]; exact s4, by rw [g 14 (by decide) (by decide)]; exact s5, s6.fr f (fun j hj q => by omega), s7.fr f (fun j hj q => by omega), s8, s9⟩
  · unfold ActC; rw [g 68 (by decide) (by decide), g 69 (by decide) (by decide), g 70 (by decide) (by decide), g 71 (by decide) (by decide)]; exact d6
  · refine ⟨fun k hk => ?_, fun k x q => ?_, Or.inl pI_eq⟩
    · rw [pI_ne 72 0 (Or.inr (by decide)), pI_ne 72 0 (Or.inl (by decide)), pI_eq, b_set _ (by omega) hk, d7.1 k hk]
      unfold adM
      by_cases e : k = j
      · simp [e]
      · simp [e]
    · rw [pI_ne 73 k (Or.inl (by decide))]
      unfold adM at q
      by_cases e : k = j
      · rw [if_pos e] at q; cases q; rw [e]; exact pI_eq
      · rw [if_neg e] at q; rw [pI_ne 73 k (Or.inr e), pI_ne 73 k (Or.inl (by decide))]; exact d7.2.1 k x q
set_option maxRecDepth 100000 in
set_option maxHeartbeats 4000000 in
theorem k_note (h : PH) {j : Nat} (hj : j < 9) (v : Int32) : ConF mX1_note 1 [.ref 72, .int (nI j), .int v] h none (pI (pI (pI h 72 0 (h.1 72 0 ||| ((1 : Int32) <<< (nI j &&& 31)))) 73 j v) 72 2 0) := by
  refine Con.mk (by decide) ?_
  show RT _ _ 0 [some (.ref 72), some (.int (nI j)), some (.int v)] [] _ _
  refine r_aload_0 dX1_note_0 ?_
  refine r_dupr dX1_note_1 ?_
  refine r_getI dX1_note_2 fl_X1_15 rfl ?_
  refine r_iconst (v := 1) dX1_note_5 (by decide) ?_
  refine r_iload_1 dX1_note_6 ?_
  refine r_ishl dX1_note_7 ?_
  refine r_ior dX1_note_8 ?_
  refine r_putI dX1_note_9 fl_X1_15 rfl rfl rfl ?_
  refine r_aload_0 dX1_note_12 ?_
  refine r_getR (a := 73) dX1_note_13 fl_X1_9 rfl rfl ?_
  refine r_iload_1 dX1_note_16 ?_
  refine r_iload_2 dX1_note_17 ?_
  refine r_iastN dX1_note_18 rfl (by omega) ?_
  refine r_aload_0 dX1_note_19 ?_
  refine r_iconst (v := 0) dX1_note_20 (by decide) ?_
  refine r_putZ dX1_note_21 fl_X1_19 rfl rfl rfl (by first | exact Or.inl rfl | exact Or.inr rfl) ?_
  refine r_vret dX1_note_24 rfl ?_
  exact ⟨rfl, rfl⟩

