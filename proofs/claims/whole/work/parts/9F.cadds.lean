/-! ===== the class reads: what is added ===== -/
theorem net_adJ {h : PH} {t : NT} (nc : NetC h 3 t) (w : Int64) (d x : Int32) : NetC (pI (pI (pI (pL h 4 (NT.J t) w) 5 (NT.J t) d) 6 (NT.J t) x) 3 0 (nI (NT.J t + 1))) 3 (adJ t d x) := by
  obtain ⟨c1, c2, c3, c4, c5, c6⟩ := nc
  have g3 : ∀ k, k ≠ 0 → (pI (pI (pI (pL h 4 (NT.J t) w) 5 (NT.J t) d) 6 (NT.J t) x) 3 0 (nI (NT.J t + 1))).1 3 k = h.1 3 k := fun k hk => by rw [pI_ne 3 k (Or.inr hk), pI_ne 3 k (Or.inl (by decide)), pI_ne 3 k (Or.inl (by decide))]; rfl
  have g : ∀ y, y ≠ 3 → y ≠ 5 → y ≠ 6 → (pI (pI (pI (pL h 4 (NT.J t) w) 5 (NT.J t) d) 6 (NT.J t) x) 3 0 (nI (NT.J t + 1))).1 y = h.1 y := fun y a b c => funext fun k => by rw [pI_ne y k (Or.inl a), pI_ne y k (Or.inl c), pI_ne y k (Or.inl b)]; rfl
  refine ⟨pI_eq, (g3 1 (by decide)).trans c2, (g3 2 (by decide)).trans c3, (g3 3 (by decide)).trans c4, fun j hj => ⟨?_, ?_⟩, fun e he => ?_⟩
  · show (pI (pI (pI (pL h 4 (NT.J t) w) 5 (NT.J t) d) 6 (NT.J t) x) 3 0 (nI (NT.J t + 1))).1 5 j = fupd (NT.dr t) (NT.J t) d j
    rw [pI_ne 5 j (Or.inl (by decide)), pI_ne 5 j (Or.inl (by decide))]
    by_cases q : j = NT.J t
    · rw [q, fupd_s]; exact pI_eq
    · rw [fupd_n q, pI_ne 5 j (Or.inr q)]; exact (c5 j (by have : j < NT.J t + 1 := hj; omega)).1
  · show (pI (pI (pI (pL h 4 (NT.J t) w) 5 (NT.J t) d) 6 (NT.J t) x) 3 0 (nI (NT.J t + 1))).1 6 j = fupd (NT.ht t) (NT.J t) x j
    rw [pI_ne 6 j (Or.inl (by decide))]
    by_cases q : j = NT.J t
    · rw [q, fupd_s]; exact pI_eq
    · rw [fupd_n q, pI_ne 6 j (Or.inr q), pI_ne 6 j (Or.inl (by decide))]; exact (c5 j (by have : j < NT.J t + 1 := hj; omega)).2
  · rw [g (3 + 4) (by decide) (by decide) (by decide), g (3 + 5) (by decide) (by decide) (by decide), g (3 + 6) (by decide) (by decide) (by decide), g (3 + 7) (by decide) (by decide) (by decide), g (3 + 8) (by decide) (by decide) (by decide), g (3 + 9) (by decide) (by decide) (by decide)]; exact c6 e he
theorem net_adE {h : PH} {t : NT} (nc : NetC h 3 t) (kd : Int32) (a b : Nat) (r : Int32) : NetC (pI (pI (pI (pI (pI (pI h 9 (NT.E t) kd) 7 (NT.E t) (nI a)) 8 (NT.E t) (nI b)) 10 (NT.E t) r) 11 (NT.E t) 0) 3 1 (nI (NT.E t + 1))) 3 (adE t kd a b r) := by
  obtain ⟨c1, c2, c3, c4, c5, c6⟩ := nc
  have g3 : ∀ k, k ≠ 1 → (pI (pI (pI (pI (pI (pI h 9 (NT.E t) kd) 7 (NT.E t) (nI a)) 8 (NT.E t) (nI b)) 10 (NT.E t) r) 11 (NT.E t) 0) 3 1 (nI (NT.E t + 1))).1 3 k = h.1 3 k := fun k hk => by rw [pI_ne 3 k (Or.inr hk), pI_ne 3 k (Or.inl (by decide)), pI_ne 3 k (Or.inl (by decide)), pI_ne 3 k (Or.inl (by decide)), pI_ne 3 k (Or.inl (by decide)), pI_ne 3 k (Or.inl (by decide))]
  have g : ∀ y, y ≠ 3 → y ≠ 7 → y ≠ 8 → y ≠ 9 → y ≠ 10 → y ≠ 11 → (pI (pI (pI (pI (pI (pI h 9 (NT.E t) kd) 7 (NT.E t) (nI a)) 8 (NT.E t) (nI b)) 10 (NT.E t) r) 11 (NT.E t) 0) 3 1 (nI (NT.E t + 1))).1 y = h.1 y := fun y a b c d e f => funext fun k => by rw [pI_ne y k (Or.inl a), pI_ne y k (Or.inl f), pI_ne y k (Or.inl e), pI_ne y k (Or.inl c), pI_ne y k (Or.inl b), pI_ne y k (Or.inl d)]
  refine ⟨(g3 0 (by decide)).trans c1, pI_eq, (g3 2 (by decide)).trans c3, (g3 3 (by decide)).trans c4, fun j hj => ?_, fun e he => ?_⟩
  · rw [g (3 + 2) (by decide) (by decide) (by decide) (by decide) (by decide) (by decide), g (3 + 3) (by decide) (by decide) (by decide) (by decide) (by decide) (by decide)]; exact c5 j hj
  · have he' : e < NT.E t + 1 := he
    have v7 : (pI (pI (pI (pI (pI (pI h 9 (NT.E t) kd) 7 (NT.E t) (nI a)) 8 (NT.E t) (nI b)) 10 (NT.E t) r) 11 (NT.E t) 0) 3 1 (nI (NT.E t + 1))).1 (3 + 4) e = if e = NT.E t then nI a else h.1 7 e := by
      show (pI (pI (pI (pI (pI (pI h 9 (NT.E t) kd) 7 (NT.E t) (nI a)) 8 (NT.E t) (nI b)) 10 (NT.E t) r) 11 (NT.E t) 0) 3 1 (nI (NT.E t + 1))).1 7 e = _
      rw [pI_ne 7 e (Or.inl (by decide)), pI_ne 7 e (Or.inl (by decide)), pI_ne 7 e (Or.inl (by decide)), pI_ne 7 e (Or.inl (by decide))]
      by_cases q : e = NT.E t
      · rw [if_pos q, q]; exact pI_eq
      · rw [if_neg q, pI_ne 7 e (Or.inr q), pI_ne 7 e (Or.inl (by decide))]
    have v8 : (pI (pI (pI (pI (pI (pI h 9 (NT.E t) kd) 7 (NT.E t) (nI a)) 8 (NT.E t) (nI b)) 10 (NT.E t) r) 11 (NT.E t) 0) 3 1 (nI (NT.E t + 1))).1 (3 + 5) e = if e = NT.E t then nI b else h.1 8 e := by
      show (pI (pI (pI (pI (pI (pI h 9 (NT.E t) kd) 7 (NT.E t) (nI a)) 8 (NT.E t) (nI b)) 10 (NT.E t) r) 11 (NT.E t) 0) 3 1 (nI (NT.E t + 1))).1 8 e = _
      rw [pI_ne 8 e (Or.inl (by decide)), pI_ne 8 e (Or.inl (by decide)), pI_ne 8 e (Or.inl (by decide))]
      by_cases q : e = NT.E t
      · rw [if_pos q, q]; exact pI_eq
      · rw [if_neg q, pI_ne 8 e (Or.inr q), pI_ne 8 e (Or.inl (by decide)), pI_ne 8 e (Or.inl (by decide))]
    have v9 : (pI (pI (pI (pI (pI (pI h 9 (NT.E t) kd) 7 (NT.E t) (nI a)) 8 (NT.E t) (nI b)) 10 (NT.E t) r) 11 (NT.E t) 0) 3 1 (nI (NT.E t + 1))).1 (3 + 6) e = if e = NT.E t then kd else h.1 9 e := by
      show (pI (pI (pI (pI (pI (pI h 9 (NT.E t) kd) 7 (NT.E t) (nI a)) 8 (NT.E t) (nI b)) 10 (NT.E t) r) 11 (NT.E t) 0) 3 1 (nI (NT.E t + 1))).1 9 e = _
      rw [pI_ne 9 e (Or.inl (by decide)), pI_ne 9 e (Or.inl (by decide)), pI_ne 9 e (Or.inl (by decide)), pI_ne 9 e (Or.inl (by decide)), pI_ne 9 e (Or.inl (by decide))]
      by_cases q : e = NT.E t
      · rw [if_pos q, q]; exact pI_eq
      · rw [if_neg q, pI_ne 9 e (Or.inr q)]
    have v10 : (pI (pI (pI (pI (pI (pI h 9 (NT.E t) kd) 7 (NT.E t) (nI a)) 8 (NT.E t) (nI b)) 10 (NT.E t) r) 11 (NT.E t) 0) 3 1 (nI (NT.E t + 1))).1 (3 + 7) e = if e = NT.E t then r else h.1 10 e := by
      show (pI (pI (pI (pI (pI (pI h 9 (NT.E t) kd) 7 (NT.E t) (nI a)) 8 (NT.E t) (nI b)) 10 (NT.E t) r) 11 (NT.E t) 0) 3 1 (nI (NT.E t + 1))).1 10 e = _
      rw [pI_ne 10 e (Or.inl (by decide)), pI_ne 10 e (Or.inl (by decide))]
      by_cases q : e = NT.E t
      · rw [if_pos q, q]; exact pI_eq
      · rw [if_neg q, pI_ne 10 e (Or.inr q), pI_ne 10 e (Or.inl (by decide)), pI_ne 10 e (Or.inl (by decide)), pI_ne 10 e (Or.inl (by decide))]
    have v11 : (pI (pI (pI (pI (pI (pI h 9 (NT.E t) kd) 7 (NT.E t) (nI a)) 8 (NT.E t) (nI b)) 10 (NT.E t) r) 11 (NT.E t) 0) 3 1 (nI (NT.E t + 1))).1 (3 + 8) e = if e = NT.E t then 0 else h.1 11 e := by
      show (pI (pI (pI (pI (pI (pI h 9 (NT.E t) kd) 7 (NT.E t) (nI a)) 8 (NT.E t) (nI b)) 10 (NT.E t) r) 11 (NT.E t) 0) 3 1 (nI (NT.E t + 1))).1 11 e = _
      rw [pI_ne 11 e (Or.inl (by decide))]
      by_cases q : e = NT.E t
      · rw [if_pos q, q]; exact pI_eq
      · rw [if_neg q, pI_ne 11 e (Or.inr q), pI_ne 11 e (Or.inl (by decide)), pI_ne 11 e (Or.inl (by decide)), pI_ne 11 e (Or.inl (by decide)), pI_ne 11 e (Or.inl (by decide))]
    rw [v7, v8, v9, v10, v11, g (3 + 9) (by decide) (by decide) (by decide) (by decide) (by decide) (by decide)]
    show _ = nI (fupd (NT.fi t) (NT.E t) a e) ∧ _ = nI (fupd (NT.se t) (NT.E t) b e) ∧ _ = fupd (NT.kd t) (NT.E t) kd e ∧ (fupd (NT.kd t) (NT.E t) kd e ≠ 2 → _ = fupd (NT.rs t) (NT.E t) r e) ∧ _ = nI (fupd (NT.lc t) (NT.E t) 0 e) ∧ ∀ k, k < fupd (NT.lc t) (NT.E t) 0 e → _ = NT.lf t e k
    by_cases q : e = NT.E t
    · rw [if_pos q, if_pos q, if_pos q, if_pos q, if_pos q, q, fupd_s, fupd_s, fupd_s, fupd_s, fupd_s]
      exact ⟨rfl, rfl, rfl, fun _ => rfl, rfl, fun k hk => by omega⟩
    · rw [if_neg q, if_neg q, if_neg q, if_neg q, if_neg q, fupd_n q, fupd_n q, fupd_n q, fupd_n q, fupd_n q]
      exact c6 e (by omega)
theorem net_adL {h : PH} {t : NT} (nc : NetC h 3 t) (h0 : 0 < NT.E t) (hl : ∀ e, e < NT.E t → NT.lc t e ≤ 6) (h6 : NT.lc t (NT.E t - 1) < 6) (v : Int32) : NetC (pI (pI h 12 (6 * (NT.E t - 1) + NT.lc t (NT.E t - 1)) v) 11 (NT.E t - 1) (nI (NT.lc t (NT.E t - 1) + 1))) 3 (adL t v) := by
  obtain ⟨c1, c2, c3, c4, c5, c6⟩ := nc
  have g : ∀ y, y ≠ 11 → y ≠ 12 → (pI (pI h 12 (6 * (NT.E t - 1) + NT.lc t (NT.E t - 1)) v) 11 (NT.E t - 1) (nI (NT.lc t (NT.E t - 1) + 1))).1 y = h.1 y := fun y a b => funext fun k => by rw [pI_ne y k (Or.inl a), pI_ne y k (Or.inl b)]
  have g3 := g 3 (by decide) (by decide)
  refine ⟨by rw [g3]; exact c1, by rw [g3]; exact c2, by rw [g3]; exact c3, by rw [g3]; exact c4, fun j hj => ?_, fun e he => ?_⟩
  · rw [g (3 + 2) (by decide) (by decide), g (3 + 3) (by decide) (by decide)]; exact c5 j hj
  · obtain ⟨m1, m2, m3, m4, m5, m6⟩ := c6 e he
    rw [g (3 + 4) (by decide) (by decide), g (3 + 5) (by decide) (by decide), g (3 + 6) (by decide) (by decide), g (3 + 7) (by decide) (by decide)]
    refine ⟨m1, m2, m3, m4, ?_, ?_⟩
    · show (pI (pI h 12 (6 * (NT.E t - 1) + NT.lc t (NT.E t - 1)) v) 11 (NT.E t - 1) (nI (NT.lc t (NT.E t - 1) + 1))).1 11 e = nI (fupd (NT.lc t) (NT.E t - 1) (NT.lc t (NT.E t - 1) + 1) e)
      by_cases q : e = NT.E t - 1
      · rw [q, fupd_s]; exact pI_eq
      · rw [fupd_n q, pI_ne 11 e (Or.inr q), pI_ne 11 e (Or.inl (by decide))]; exact m5
    · show ∀ k, k < fupd (NT.lc t) (NT.E t - 1) (NT.lc t (NT.E t - 1) + 1) e → (pI (pI h 12 (6 * (NT.E t - 1) + NT.lc t (NT.E t - 1)) v) 11 (NT.E t - 1) (nI (NT.lc t (NT.E t - 1) + 1))).1 12 (6 * e + k) = fupd (NT.lf t) (NT.E t - 1) (fupd (NT.lf t (NT.E t - 1)) (NT.lc t (NT.E t - 1)) v) e k
      intro k hk
      rw [pI_ne 12 _ (Or.inl (by decide))]
      by_cases q : e = NT.E t - 1
      · rw [q, fupd_s] at hk ⊢
        by_cases z : k = NT.lc t (NT.E t - 1)
        · rw [z, fupd_s]; exact pI_eq
        · rw [fupd_n z, pI_ne 12 _ (Or.inr (by omega))]
          rw [q] at m6
          exact m6 k (by omega)
      · rw [fupd_n q] at hk ⊢
        have := hl e he
        rw [pI_ne 12 _ (Or.inr (by omega))]; exact m6 k hk
set_option maxRecDepth 100000 in
set_option maxHeartbeats 4000000 in
theorem k_addJ {h : PH} {t : NT} (k0 : h.1 3 0 = nI (NT.J t)) (h9 : NT.J t < 9) (w : Int64) (d x : Int32) : ConF mX2_addJoint 1 [.ref 3, .long w, .int d, .int x] h none (pI (pI (pI (pL h 4 (NT.J t) w) 5 (NT.J t) d) 6 (NT.J t) x) 3 0 (nI (NT.J t + 1))) := by
  refine Con.mk (by decide) ?_
  show RT _ _ 0 [some (.ref 3), some (.long w), none, some (.int d), some (.int x)] [] _ _
  refine r_aload_0 dX2_addJoint_0 ?_
  refine r_getI dX2_addJoint_1 fl_X2_40 rfl ?_
  rw [k0]
  refine r_bipush (v := nI 9) dX2_addJoint_4 (by decide) ?_
  refine r_icmpN_ge 50 dX2_addJoint_6 (by decide) (by omega) (by omega) (fun c_6 => by omega) (fun c_6 => ?_)
  refine r_aload_0 dX2_addJoint_9 ?_
  refine r_getR (a := 4) dX2_addJoint_10 fl_X2_9 rfl rfl ?_
  refine r_aload_0 dX2_addJoint_13 ?_
  refine r_getI dX2_addJoint_14 fl_X2_40 rfl ?_
  rw [k0]
  refine r_lload_1 dX2_addJoint_17 ?_
  refine r_lastN dX2_addJoint_18 rfl (by omega) ?_
  refine r_aload_0 dX2_addJoint_19 ?_
  refine r_getR (a := 5) dX2_addJoint_20 fl_X2_15 rfl rfl ?_
  refine r_aload_0 dX2_addJoint_23 ?_
  refine r_getI dX2_addJoint_24 fl_X2_40 rfl ?_
  rw [show (pL h 4 (NT.J t) w).1 3 0 = nI (NT.J t) from k0]
  refine r_iload_3 dX2_addJoint_27 ?_
  refine r_iastN dX2_addJoint_28 rfl (by omega) ?_
  refine r_aload_0 dX2_addJoint_29 ?_
  refine r_getR (a := 6) dX2_addJoint_30 fl_X2_19 rfl rfl ?_
  refine r_aload_0 dX2_addJoint_33 ?_
  refine r_getI dX2_addJoint_34 fl_X2_40 rfl ?_
  rw [show (pI (pL h 4 (NT.J t) w) 5 (NT.J t) d).1 3 0 = nI (NT.J t) from (pI_ne 3 0 (Or.inl (by decide))).trans k0]
  refine r_iload_4 dX2_addJoint_37 ?_
  refine r_iastN dX2_addJoint_39 rfl (by omega) ?_
  refine r_aload_0 dX2_addJoint_40 ?_
  refine r_dupr dX2_addJoint_41 ?_
  refine r_getI dX2_addJoint_42 fl_X2_40 rfl ?_
  rw [show (pI (pI (pL h 4 (NT.J t) w) 5 (NT.J t) d) 6 (NT.J t) x).1 3 0 = nI (NT.J t) from ((pI_ne 3 0 (Or.inl (by decide))).trans (pI_ne 3 0 (Or.inl (by decide)))).trans k0]
  refine r_iconst (v := nI 1) dX2_addJoint_45 (by decide) ?_
  refine r_iadd dX2_addJoint_46 ?_
  rw [nI_ad9]
  refine r_putI dX2_addJoint_47 fl_X2_40 rfl rfl rfl ?_
  refine r_vret dX2_addJoint_50 rfl ?_
  exact ⟨rfl, rfl⟩

set_option maxRecDepth 100000 in
set_option maxHeartbeats 4000000 in
theorem k_addE {h : PH} {t : NT} (k1 : h.1 3 1 = nI (NT.E t)) (h14 : NT.E t < 14) (kd : Int32) (a b : Nat) (r : Int32) : ConF mX2_addEdge 1 [.ref 3, .int kd, .int (nI a), .int (nI b), .int r] h none (pI (pI (pI (pI (pI (pI h 9 (NT.E t) kd) 7 (NT.E t) (nI a)) 8 (NT.E t) (nI b)) 10 (NT.E t) r) 11 (NT.E t) 0) 3 1 (nI (NT.E t + 1))) := by
  refine Con.mk (by decide) ?_
  show RT _ _ 0 [some (.ref 3), some (.int kd), some (.int (nI a)), some (.int (nI b)), some (.int r)] [] _ _
  refine r_aload_0 dX2_addEdge_0 ?_
  refine r_getI dX2_addEdge_1 fl_X2_44 rfl ?_
  rw [k1]
  refine r_bipush (v := nI 14) dX2_addEdge_4 (by decide) ?_
  refine r_icmpN_ge 70 dX2_addEdge_6 (by decide) (by omega) (by omega) (fun c_6 => by omega) (fun c_6 => ?_)
  refine r_aload_0 dX2_addEdge_9 ?_
  refine r_getR (a := 9) dX2_addEdge_10 fl_X2_28 rfl rfl ?_
  refine r_aload_0 dX2_addEdge_13 ?_
  refine r_getI dX2_addEdge_14 fl_X2_44 rfl ?_
  rw [k1]
  refine r_iload_1 dX2_addEdge_17 ?_
  refine r_iastN dX2_addEdge_18 rfl (by omega) ?_
  refine r_aload_0 dX2_addEdge_19 ?_
  refine r_getR (a := 7) dX2_addEdge_20 fl_X2_22 rfl rfl ?_
  refine r_aload_0 dX2_addEdge_23 ?_
  refine r_getI dX2_addEdge_24 fl_X2_44 rfl ?_
  rw [show (pI h 9 (NT.E t) kd).1 3 1 = nI (NT.E t) from (pI_ne 3 1 (Or.inl (by decide))).trans k1]
  refine r_iload_2 dX2_addEdge_27 ?_
  refine r_iastN dX2_addEdge_28 rfl (by omega) ?_
  refine r_aload_0 dX2_addEdge_29 ?_
  refine r_getR (a := 8) dX2_addEdge_30 fl_X2_25 rfl rfl ?_
  refine r_aload_0 dX2_addEdge_33 ?_
  refine r_getI dX2_addEdge_34 fl_X2_44 rfl ?_
  rw [show (pI (pI h 9 (NT.E t) kd) 7 (NT.E t) (nI a)).1 3 1 = nI (NT.E t) from ((pI_ne 3 1 (Or.inl (by decide))).trans (pI_ne 3 1 (Or.inl (by decide)))).trans k1]
  refine r_iload_3 dX2_addEdge_37 ?_
  refine r_iastN dX2_addEdge_38 rfl (by omega) ?_
  refine r_aload_0 dX2_addEdge_39 ?_
  refine r_getR (a := 10) dX2_addEdge_40 fl_X2_31 rfl rfl ?_
  refine r_aload_0 dX2_addEdge_43 ?_
  refine r_getI dX2_addEdge_44 fl_X2_44 rfl ?_
  rw [show (pI (pI (pI h 9 (NT.E t) kd) 7 (NT.E t) (nI a)) 8 (NT.E t) (nI b)).1 3 1 = nI (NT.E t) from ((pI_ne 3 1 (Or.inl (by decide))).trans ((pI_ne 3 1 (Or.inl (by decide))).trans (pI_ne 3 1 (Or.inl (by decide))))).trans k1]
  refine r_iload_4 dX2_addEdge_47 ?_
  refine r_iastN dX2_addEdge_49 rfl (by omega) ?_
  refine r_aload_0 dX2_addEdge_50 ?_
  refine r_getR (a := 11) dX2_addEdge_51 fl_X2_34 rfl rfl ?_
  refine r_aload_0 dX2_addEdge_54 ?_
  refine r_getI dX2_addEdge_55 fl_X2_44 rfl ?_
  rw [show (pI (pI (pI (pI h 9 (NT.E t) kd) 7 (NT.E t) (nI a)) 8 (NT.E t) (nI b)) 10 (NT.E t) r).1 3 1 = nI (NT.E t) from ((pI_ne 3 1 (Or.inl (by decide))).trans ((pI_ne 3 1 (Or.inl (by decide))).trans ((pI_ne 3 1 (Or.inl (by decide))).trans (pI_ne 3 1 (Or.inl (by decide)))))).trans k1]
  refine r_iconst (v := 0) dX2_addEdge_58 (by decide) ?_
  refine r_iastN dX2_addEdge_59 rfl (by omega) ?_
  refine r_aload_0 dX2_addEdge_60 ?_
  refine r_dupr dX2_addEdge_61 ?_
  refine r_getI dX2_addEdge_62 fl_X2_44 rfl ?_
  rw [show (pI (pI (pI (pI (pI h 9 (NT.E t) kd) 7 (NT.E t) (nI a)) 8 (NT.E t) (nI b)) 10 (NT.E t) r) 11 (NT.E t) 0).1 3 1 = nI (NT.E t) from ((pI_ne 3 1 (Or.inl (by decide))).trans ((pI_ne 3 1 (Or.inl (by decide))).trans ((pI_ne 3 1 (Or.inl (by decide))).trans ((pI_ne 3 1 (Or.inl (by decide))).trans (pI_ne 3 1 (Or.inl (by decide))))))).trans k1]
  refine r_iconst (v := nI 1) dX2_addEdge_65 (by decide) ?_
  refine r_iadd dX2_addEdge_66 ?_
  rw [nI_ad9]
  refine r_putI dX2_addEdge_67 fl_X2_44 rfl rfl rfl ?_
  refine r_vret dX2_addEdge_70 rfl ?_
  exact ⟨rfl, rfl⟩

set_option maxRecDepth 100000 in
set_option maxHeartbeats 4000000 in
theorem k_addL {h : PH} {t : NT} (k1 : h.1 3 1 = nI (NT.E t)) (h0 : 0 < NT.E t) (h14 : NT.E t ≤ 14) (kl : h.1 11 (NT.E t - 1) = nI (NT.lc t (NT.E t - 1))) (h6 : NT.lc t (NT.E t - 1) < 6) (v : Int32) : ConF mX2_addLift 1 [.ref 3, .int v] h none (pI (pI h 12 (6 * (NT.E t - 1) + NT.lc t (NT.E t - 1)) v) 11 (NT.E t - 1) (nI (NT.lc t (NT.E t - 1) + 1))) := by
  refine Con.mk (by decide) ?_
  show RT _ _ 0 [some (.ref 3), some (.int v), none] [] _ _
  refine r_aload_0 dX2_addLift_0 ?_
  refine r_getI dX2_addLift_1 fl_X2_44 rfl ?_
  rw [k1]
  refine r_iconst (v := nI 1) dX2_addLift_4 (by decide) ?_
  refine r_isub dX2_addLift_5 ?_
  rw [nI_sb (by omega)]
  refine r_istore_2 dX2_addLift_6 ?_
  refine r_iload_2 dX2_addLift_7 ?_
  refine r_if_lt 49 dX2_addLift_8 (by decide) (fun c_8 => by exact absurd c_8 (nI_pos (by omega))) (fun c_8 => ?_)
  refine r_aload_0 dX2_addLift_11 ?_
  refine r_getR (a := 11) dX2_addLift_12 fl_X2_34 rfl rfl ?_
  refine r_iload_2 dX2_addLift_15 ?_
  refine r_ialdN dX2_addLift_16 rfl (by omega) ?_
  rw [kl]
  refine r_bipush (v := nI 6) dX2_addLift_17 (by decide) ?_
  refine r_icmpN_ge 49 dX2_addLift_19 (by decide) (by omega) (by omega) (fun c_19 => by omega) (fun c_19 => ?_)
  refine r_aload_0 dX2_addLift_22 ?_
  refine r_getR (a := 12) dX2_addLift_23 fl_X2_37 rfl rfl ?_
  refine r_iload_2 dX2_addLift_26 ?_
  refine r_bipush (v := nI 6) dX2_addLift_27 (by decide) ?_
  refine r_imul dX2_addLift_29 ?_
  rw [nI_mu9, show (NT.E t - 1) * 6 = 6 * (NT.E t - 1) by omega]
  refine r_aload_0 dX2_addLift_30 ?_
  refine r_getR (a := 11) dX2_addLift_31 fl_X2_34 rfl rfl ?_
  refine r_iload_2 dX2_addLift_34 ?_
  refine r_ialdN dX2_addLift_35 rfl (by omega) ?_
  rw [kl]
  refine r_iadd dX2_addLift_36 ?_
  rw [nI_ad9]
  refine r_iload_1 dX2_addLift_37 ?_
  refine r_iastN dX2_addLift_38 rfl (by omega) ?_
  refine r_aload_0 dX2_addLift_39 ?_
  refine r_getR (a := 11) dX2_addLift_40 fl_X2_34 rfl rfl ?_
  refine r_iload_2 dX2_addLift_43 ?_
  refine r_dup2ir dX2_addLift_44 ?_
  refine r_ialdN dX2_addLift_45 rfl (by omega) ?_
  rw [show (pI h 12 (6 * (NT.E t - 1) + NT.lc t (NT.E t - 1)) v).1 11 (NT.E t - 1) = nI (NT.lc t (NT.E t - 1)) from (pI_ne 11 _ (Or.inl (by decide))).trans kl]
  refine r_iconst (v := nI 1) dX2_addLift_46 (by decide) ?_
  refine r_iadd dX2_addLift_47 ?_
  rw [nI_ad9]
  refine r_iastN dX2_addLift_48 rfl (by omega) ?_
  refine r_vret dX2_addLift_49 rfl ?_
  exact ⟨rfl, rfl⟩

