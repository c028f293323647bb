/-! ===== both: undo ===== -/
theorem TB.same {k p o : Int32} {t1 t0 : NT} (h : TB k p o t1 t0) : NT.J t0 = NT.J t1 ∧ NT.E t0 = NT.E t1 ∧ NT.fi t0 = NT.fi t1 ∧ NT.se t0 = NT.se t1 ∧ NT.kd t0 = NT.kd t1 ∧ NT.lc t0 = NT.lc t1 ∧ NT.lf t0 = NT.lf t1 ∧ NT.ht t0 = NT.ht t1 := by
  rcases h with ⟨-, e, -, -, -, q⟩ | ⟨-, j, -, -, -, q⟩ | ⟨-, q⟩ | ⟨-, e, -, -, -, q⟩
  all_goals rw [q]; exact ⟨rfl, rfl, rfl, rfl, rfl, rfl, rfl, rfl⟩
theorem acAt_take {ac : List NT} {t : NT} {n k : Nat} (hn : n < ac.length) (hk : k ≤ n) : acAt (ac.take n) (acAt ac t n) k = acAt ac t k := by
  have hl : (ac.take n).length = n := by rw [List.length_take]; omega
  by_cases q : k < n
  · rw [acAt_lt (ac := ac.take n) (by omega), acAt_lt (ac := ac) (k := k) (by omega), getD_lt (l := ac.take n) (by omega) _ t, List.getD_eq_getElem?_getD, List.getD_eq_getElem?_getD, List.getElem?_take, if_pos q]
  · have : k = n := by omega
    rw [this]
    have e := acAt_len (ac := ac.take n) (t := acAt ac t n)
    rw [hl] at e; exact e
set_option maxRecDepth 100000 in
set_option maxHeartbeats 4000000 in
theorem k_back {h : PH} {t : NT} {ac : List NT} {n : Nat} (hn : n + 1 = ac.length) (acc : ActC h t ac) (tx : TxOK t) (nc : NetC h 15 t) : Con mX0_takeBackLatest 1 [.ref 68, .ref 15] h (fun a h' => a = none ∧ (NetC h' 15 (acAt ac t n) ∧ h'.2 = h.2 ∧ Fr (fun y => 15 ≤ y ∧ y < 25) (pI h 68 0 (nI n)) h')) := by
  obtain ⟨a1, a2, a3⟩ := acc
  have hJ9 := tx.1.2.1
  have hE14 := tx.1.2.2.1
  obtain ⟨-, tb⟩ := a3 n (by omega)
  rw [show n + 1 = ac.length from hn, acAt_len] at tb
  generalize acAt ac t n = t0 at tb
  have f0 : Fr (fun y => y = 68) h (pI h 68 0 (nI n)) := Fr.rf.pI rfl
  have nc0 : NetC (pI h 68 0 (nI n)) 15 t := nc.fr f0 (fun j hj q => by omega)
  have g0 : (pI h 68 0 (nI n)).1 68 0 = nI n := pI_eq
  have gk : ∀ y, y ≠ 68 → (pI h 68 0 (nI n)).1 y = h.1 y := fun y hy => (f0 y hy).1
  rw [← hn] at a1
  refine Con.mk (by decide) ?_
  show RT _ _ 0 [some (.ref 68), some (.ref 15), none, none] [] _ _
  rcases tb with ⟨hk, e, he, hp, -, hq⟩ | ⟨hk, j, h0, hj, hp, hq⟩ | ⟨hk, hq⟩ | ⟨hk, e, he, hkd, hp, hq⟩
  · refine r_aload_0 dX0_takeBackLatest_0 ?_
    refine r_getI dX0_takeBackLatest_1 fl_X0_21 rfl ?_
    rw [a1]
    refine r_if_gt 8 dX0_takeBackLatest_4 (by decide) (fun c_4 => ?_) (fun c_4 => by exact absurd (by rw [fa_lt, nI_toInt (by omega)]; exact (by omega : (0 : Int) < ((n + 1 : Nat) : Int))) c_4)
    refine r_aload_0 dX0_takeBackLatest_8 ?_
    refine r_dupr dX0_takeBackLatest_9 ?_
    refine r_getI dX0_takeBackLatest_10 fl_X0_21 rfl ?_
    rw [a1]
    refine r_iconst (v := nI 1) dX0_takeBackLatest_13 (by decide) ?_
    refine r_isub dX0_takeBackLatest_14 ?_
    rw [show nI (n + 1) - nI 1 = nI n by rw [← nI_ad9]; exact Int32.add_sub_cancel _ _]
    refine r_putI dX0_takeBackLatest_15 fl_X0_21 rfl rfl rfl ?_
    refine r_aload_0 dX0_takeBackLatest_18 ?_
    refine r_getR (a := 70) dX0_takeBackLatest_19 fl_X0_15 rfl rfl ?_
    refine r_aload_0 dX0_takeBackLatest_22 ?_
    refine r_getI dX0_takeBackLatest_23 fl_X0_21 rfl ?_
    rw [g0]
    refine r_ialdN dX0_takeBackLatest_26 rfl (by omega) ?_
    rw [gk 70 (by decide), hp]
    refine r_istore_2 dX0_takeBackLatest_27 ?_
    refine r_aload_0 dX0_takeBackLatest_28 ?_
    refine r_getR (a := 71) dX0_takeBackLatest_29 fl_X0_18 rfl rfl ?_
    refine r_aload_0 dX0_takeBackLatest_32 ?_
    refine r_getI dX0_takeBackLatest_33 fl_X0_21 rfl ?_
    rw [g0]
    refine r_ialdN dX0_takeBackLatest_36 rfl (by omega) ?_
    rw [gk 71 (by decide)]
    refine r_istore_3 dX0_takeBackLatest_37 ?_
    refine r_aload_0 dX0_takeBackLatest_38 ?_
    refine r_getR (a := 69) dX0_takeBackLatest_39 fl_X0_9 rfl rfl ?_
    refine r_aload_0 dX0_takeBackLatest_42 ?_
    refine r_getI dX0_takeBackLatest_43 fl_X0_21 rfl ?_
    rw [g0]
    refine r_ialdN dX0_takeBackLatest_46 rfl (by omega) ?_
    rw [gk 69 (by decide), show h.1 69 n = nI 0 from hk]
    refine r_tabIn (x := nI 0) 72 dX0_takeBackLatest_47 (by decide +kernel) (by decide +kernel) rfl (by decide) ?_
    refine r_aload_1 dX0_takeBackLatest_72 ?_
    refine r_aload_1 dX0_takeBackLatest_73 ?_
    refine r_getI dX0_takeBackLatest_74 fl_X0_34 rfl ?_
    rw [show (pI h 68 0 (nI n)).1 15 3 = NT.cl t from nc0.2.2.2.1]
    refine r_iconst (v := 1) dX0_takeBackLatest_77 (by decide) ?_
    refine r_iload_2 dX0_takeBackLatest_78 ?_
    refine r_ishl dX0_takeBackLatest_79 ?_
    refine r_iconst (v := (-1)) dX0_takeBackLatest_80 (by decide) ?_
    refine r_ixor dX0_takeBackLatest_81 ?_
    refine r_iand dX0_takeBackLatest_82 ?_
    refine r_iload_3 dX0_takeBackLatest_83 ?_
    refine r_iload_2 dX0_takeBackLatest_84 ?_
    refine r_ishl dX0_takeBackLatest_85 ?_
    refine r_ior dX0_takeBackLatest_86 ?_
    refine r_putI dX0_takeBackLatest_87 fl_X0_34 rfl rfl rfl ?_
    refine r_goto 118 dX0_takeBackLatest_90 (by decide) ?_
    refine r_vret dX0_takeBackLatest_118 rfl ?_
    exact ⟨rfl, by rw [hq]; exact nc0.cl _, rfl, Fr.rf.pI ⟨by omega, by omega⟩⟩
  · refine r_aload_0 dX0_takeBackLatest_0 ?_
    refine r_getI dX0_takeBackLatest_1 fl_X0_21 rfl ?_
    rw [a1]
    refine r_if_gt 8 dX0_takeBackLatest_4 (by decide) (fun c_4 => ?_) (fun c_4 => by exact absurd (by rw [fa_lt, nI_toInt (by omega)]; exact (by omega : (0 : Int) < ((n + 1 : Nat) : Int))) c_4)
    refine r_aload_0 dX0_takeBackLatest_8 ?_
    refine r_dupr dX0_takeBackLatest_9 ?_
    refine r_getI dX0_takeBackLatest_10 fl_X0_21 rfl ?_
    rw [a1]
    refine r_iconst (v := nI 1) dX0_takeBackLatest_13 (by decide) ?_
    refine r_isub dX0_takeBackLatest_14 ?_
    rw [show nI (n + 1) - nI 1 = nI n by rw [← nI_ad9]; exact Int32.add_sub_cancel _ _]
    refine r_putI dX0_takeBackLatest_15 fl_X0_21 rfl rfl rfl ?_
    refine r_aload_0 dX0_takeBackLatest_18 ?_
    refine r_getR (a := 70) dX0_takeBackLatest_19 fl_X0_15 rfl rfl ?_
    refine r_aload_0 dX0_takeBackLatest_22 ?_
    refine r_getI dX0_takeBackLatest_23 fl_X0_21 rfl ?_
    rw [g0]
    refine r_ialdN dX0_takeBackLatest_26 rfl (by omega) ?_
    rw [gk 70 (by decide), hp]
    refine r_istore_2 dX0_takeBackLatest_27 ?_
    refine r_aload_0 dX0_takeBackLatest_28 ?_
    refine r_getR (a := 71) dX0_takeBackLatest_29 fl_X0_18 rfl rfl ?_
    refine r_aload_0 dX0_takeBackLatest_32 ?_
    refine r_getI dX0_takeBackLatest_33 fl_X0_21 rfl ?_
    rw [g0]
    refine r_ialdN dX0_takeBackLatest_36 rfl (by omega) ?_
    rw [gk 71 (by decide)]
    refine r_istore_3 dX0_takeBackLatest_37 ?_
    refine r_aload_0 dX0_takeBackLatest_38 ?_
    refine r_getR (a := 69) dX0_takeBackLatest_39 fl_X0_9 rfl rfl ?_
    refine r_aload_0 dX0_takeBackLatest_42 ?_
    refine r_getI dX0_takeBackLatest_43 fl_X0_21 rfl ?_
    rw [g0]
    refine r_ialdN dX0_takeBackLatest_46 rfl (by omega) ?_
    rw [gk 69 (by decide), show h.1 69 n = nI 1 from hk]
    refine r_tabIn (x := nI 1) 93 dX0_takeBackLatest_47 (by decide +kernel) (by decide +kernel) rfl (by decide) ?_
    refine r_aload_1 dX0_takeBackLatest_93 ?_
    refine r_getR (a := 17) dX0_takeBackLatest_94 fl_X0_39 rfl rfl ?_
    refine r_iload_2 dX0_takeBackLatest_97 ?_
    refine r_iload_3 dX0_takeBackLatest_98 ?_
    refine r_iastN dX0_takeBackLatest_99 rfl (by omega) ?_
    refine r_goto 118 dX0_takeBackLatest_100 (by decide) ?_
    refine r_vret dX0_takeBackLatest_118 rfl ?_
    exact ⟨rfl, by rw [hq]; exact nc0.dr _, rfl, Fr.rf.pI ⟨by omega, by omega⟩⟩
  · refine r_aload_0 dX0_takeBackLatest_0 ?_
    refine r_getI dX0_takeBackLatest_1 fl_X0_21 rfl ?_
    rw [a1]
    refine r_if_gt 8 dX0_takeBackLatest_4 (by decide) (fun c_4 => ?_) (fun c_4 => by exact absurd (by rw [fa_lt, nI_toInt (by omega)]; exact (by omega : (0 : Int) < ((n + 1 : Nat) : Int))) c_4)
    refine r_aload_0 dX0_takeBackLatest_8 ?_
    refine r_dupr dX0_takeBackLatest_9 ?_
    refine r_getI dX0_takeBackLatest_10 fl_X0_21 rfl ?_
    rw [a1]
    refine r_iconst (v := nI 1) dX0_takeBackLatest_13 (by decide) ?_
    refine r_isub dX0_takeBackLatest_14 ?_
    rw [show nI (n + 1) - nI 1 = nI n by rw [← nI_ad9]; exact Int32.add_sub_cancel _ _]
    refine r_putI dX0_takeBackLatest_15 fl_X0_21 rfl rfl rfl ?_
    refine r_aload_0 dX0_takeBackLatest_18 ?_
    refine r_getR (a := 70) dX0_takeBackLatest_19 fl_X0_15 rfl rfl ?_
    refine r_aload_0 dX0_takeBackLatest_22 ?_
    refine r_getI dX0_takeBackLatest_23 fl_X0_21 rfl ?_
    rw [g0]
    refine r_ialdN dX0_takeBackLatest_26 rfl (by omega) ?_
    rw [gk 70 (by decide)]
    refine r_istore_2 dX0_takeBackLatest_27 ?_
    refine r_aload_0 dX0_takeBackLatest_28 ?_
    refine r_getR (a := 71) dX0_takeBackLatest_29 fl_X0_18 rfl rfl ?_
    refine r_aload_0 dX0_takeBackLatest_32 ?_
    refine r_getI dX0_takeBackLatest_33 fl_X0_21 rfl ?_
    rw [g0]
    refine r_ialdN dX0_takeBackLatest_36 rfl (by omega) ?_
    rw [gk 71 (by decide)]
    refine r_istore_3 dX0_takeBackLatest_37 ?_
    refine r_aload_0 dX0_takeBackLatest_38 ?_
    refine r_getR (a := 69) dX0_takeBackLatest_39 fl_X0_9 rfl rfl ?_
    refine r_aload_0 dX0_takeBackLatest_42 ?_
    refine r_getI dX0_takeBackLatest_43 fl_X0_21 rfl ?_
    rw [g0]
    refine r_ialdN dX0_takeBackLatest_46 rfl (by omega) ?_
    rw [gk 69 (by decide), show h.1 69 n = nI 2 from hk]
    refine r_tabIn (x := nI 2) 103 dX0_takeBackLatest_47 (by decide +kernel) (by decide +kernel) rfl (by decide) ?_
    refine r_aload_1 dX0_takeBackLatest_103 ?_
    refine r_iload_3 dX0_takeBackLatest_104 ?_
    refine r_putI dX0_takeBackLatest_105 fl_X0_42 rfl rfl rfl ?_
    refine r_goto 118 dX0_takeBackLatest_108 (by decide) ?_
    refine r_vret dX0_takeBackLatest_118 rfl ?_
    exact ⟨rfl, by rw [hq]; exact nc0.wh _, rfl, Fr.rf.pI ⟨by omega, by omega⟩⟩
  · refine r_aload_0 dX0_takeBackLatest_0 ?_
    refine r_getI dX0_takeBackLatest_1 fl_X0_21 rfl ?_
    rw [a1]
    refine r_if_gt 8 dX0_takeBackLatest_4 (by decide) (fun c_4 => ?_) (fun c_4 => by exact absurd (by rw [fa_lt, nI_toInt (by omega)]; exact (by omega : (0 : Int) < ((n + 1 : Nat) : Int))) c_4)
    refine r_aload_0 dX0_takeBackLatest_8 ?_
    refine r_dupr dX0_takeBackLatest_9 ?_
    refine r_getI dX0_takeBackLatest_10 fl_X0_21 rfl ?_
    rw [a1]
    refine r_iconst (v := nI 1) dX0_takeBackLatest_13 (by decide) ?_
    refine r_isub dX0_takeBackLatest_14 ?_
    rw [show nI (n + 1) - nI 1 = nI n by rw [← nI_ad9]; exact Int32.add_sub_cancel _ _]
    refine r_putI dX0_takeBackLatest_15 fl_X0_21 rfl rfl rfl ?_
    refine r_aload_0 dX0_takeBackLatest_18 ?_
    refine r_getR (a := 70) dX0_takeBackLatest_19 fl_X0_15 rfl rfl ?_
    refine r_aload_0 dX0_takeBackLatest_22 ?_
    refine r_getI dX0_takeBackLatest_23 fl_X0_21 rfl ?_
    rw [g0]
    refine r_ialdN dX0_takeBackLatest_26 rfl (by omega) ?_
    rw [gk 70 (by decide), hp]
    refine r_istore_2 dX0_takeBackLatest_27 ?_
    refine r_aload_0 dX0_takeBackLatest_28 ?_
    refine r_getR (a := 71) dX0_takeBackLatest_29 fl_X0_18 rfl rfl ?_
    refine r_aload_0 dX0_takeBackLatest_32 ?_
    refine r_getI dX0_takeBackLatest_33 fl_X0_21 rfl ?_
    rw [g0]
    refine r_ialdN dX0_takeBackLatest_36 rfl (by omega) ?_
    rw [gk 71 (by decide)]
    refine r_istore_3 dX0_takeBackLatest_37 ?_
    refine r_aload_0 dX0_takeBackLatest_38 ?_
    refine r_getR (a := 69) dX0_takeBackLatest_39 fl_X0_9 rfl rfl ?_
    refine r_aload_0 dX0_takeBackLatest_42 ?_
    refine r_getI dX0_takeBackLatest_43 fl_X0_21 rfl ?_
    rw [g0]
    refine r_ialdN dX0_takeBackLatest_46 rfl (by omega) ?_
    rw [gk 69 (by decide), show h.1 69 n = nI 3 from hk]
    refine r_tabOut (x := nI 3) 111 dX0_takeBackLatest_47 (by decide +kernel) (by decide) ?_
    refine r_aload_1 dX0_takeBackLatest_111 ?_
    refine r_getR (a := 22) dX0_takeBackLatest_112 fl_X0_45 rfl rfl ?_
    refine r_iload_2 dX0_takeBackLatest_115 ?_
    refine r_iload_3 dX0_takeBackLatest_116 ?_
    refine r_iastN dX0_takeBackLatest_117 rfl (by omega) ?_
    refine r_vret dX0_takeBackLatest_118 rfl ?_
    exact ⟨rfl, by rw [hq]; exact nc0.rsw _, rfl, Fr.rf.pI ⟨by omega, by omega⟩⟩
set_option maxRecDepth 100000 in
set_option maxHeartbeats 4000000 in
theorem un_76 (h0 : PH) {n : Nat} (hn : n < 12) (h51 : h0.1 74 51 = nI n) {Q : Option Value → PH → Prop} (K : ∀ h', (∀ i, i < 9 → h'.1 76 i = h0.1 96 (9 * n + i)) → FM (fun y => y = 76) noF h0 h' → RT mX8_undo 7 89 [some (.ref 74), none] [] h' Q) : ∀ (m k : Nat) (h : PH), k + m = 9 → (∀ i, i < k → h.1 76 i = h0.1 96 (9 * n + i)) → FM (fun y => y = 76) noF h0 h → RT mX8_undo 7 57 [some (.ref 74), some (.int (nI k))] [] h Q := by
  intro m
  induction m with
  | zero =>
    intro k h hk h1 fr
    have : k = 9 := by omega
    subst this
    refine r_iload_1 dX8_undo_57 ?_
    refine r_bipush (v := nI 9) dX8_undo_58 (by decide) ?_
    refine r_icmpN_ge 89 dX8_undo_60 (by decide) (by omega) (by omega) (fun c_60 => ?_) (fun c_60 => by omega)
    refine RT.sub (lv' := [some (.ref 74), none]) (by simp [lsub]) ?_
    exact K h h1 fr
  | succ m ih =>
    intro k h hk h1 fr
    have e : h.1 74 51 = nI n := (fr.1 51 id).trans h51
    have eB : h.1 96 = h0.1 96 := (fr.2.1 96 (by decide) (by decide)).1
    refine r_iload_1 dX8_undo_57 ?_
    refine r_bipush (v := nI 9) dX8_undo_58 (by decide) ?_
    refine r_icmpN_ge 89 dX8_undo_60 (by decide) (by omega) (by omega) (fun c_60 => by omega) (fun c_60 => ?_)
    refine r_aload_0 dX8_undo_63 ?_
    refine r_getR (a := 76) dX8_undo_64 fl_X8_19 rfl rfl ?_
    refine r_iload_1 dX8_undo_67 ?_
    refine r_aload_0 dX8_undo_68 ?_
    refine r_getR (a := 96) dX8_undo_69 fl_X8_87 rfl rfl ?_
    refine r_bipush (v := nI 9) dX8_undo_72 (by decide) ?_
    refine r_aload_0 dX8_undo_74 ?_
    refine r_getI dX8_undo_75 fl_X8_238 rfl ?_
    rw [e]
    refine r_imul dX8_undo_78 ?_
    rw [nI_mu9]
    refine r_iload_1 dX8_undo_79 ?_
    refine r_iadd dX8_undo_80 ?_
    rw [nI_ad9]
    refine r_ialdN dX8_undo_81 rfl (by omega) ?_
    refine r_iastN dX8_undo_82 rfl (by omega) ?_
    refine r_iincN_1 dX8_undo_83 ?_
    refine r_goto 57 dX8_undo_86 (by decide) ?_
    refine ih (k + 1) _ (by omega) (fun i hi => ?_) (fr.pI (by decide) rfl)
    by_cases q : i = k
    · rw [q, pI_eq, eB]
    · rw [pI_ne 76 _ (Or.inr q)]; exact h1 i (by omega)
set_option maxRecDepth 100000 in
set_option maxHeartbeats 4000000 in
theorem un_82 (h0 : PH) {n : Nat} (hn : n < 12) (h51 : h0.1 74 51 = nI n) {Q : Option Value → PH → Prop} (K : ∀ h', (∀ i, i < 14 → h'.1 82 i = h0.1 97 (14 * n + i)) → FM (fun y => y = 82) noF h0 h' → RT mX8_undo 7 123 [some (.ref 74), none] [] h' Q) : ∀ (m k : Nat) (h : PH), k + m = 14 → (∀ i, i < k → h.1 82 i = h0.1 97 (14 * n + i)) → FM (fun y => y = 82) noF h0 h → RT mX8_undo 7 91 [some (.ref 74), some (.int (nI k))] [] h Q := by
  intro m
  induction m with
  | zero =>
    intro k h hk h1 fr
    have : k = 14 := by omega
    subst this
    refine r_iload_1 dX8_undo_91 ?_
    refine r_bipush (v := nI 14) dX8_undo_92 (by decide) ?_
    refine r_icmpN_ge 123 dX8_undo_94 (by decide) (by omega) (by omega) (fun c_94 => ?_) (fun c_94 => by omega)
    refine RT.sub (lv' := [some (.ref 74), none]) (by simp [lsub]) ?_
    exact K h h1 fr
  | succ m ih =>
    intro k h hk h1 fr
    have e : h.1 74 51 = nI n := (fr.1 51 id).trans h51
    have eB : h.1 97 = h0.1 97 := (fr.2.1 97 (by decide) (by decide)).1
    refine r_iload_1 dX8_undo_91 ?_
    refine r_bipush (v := nI 14) dX8_undo_92 (by decide) ?_
    refine r_icmpN_ge 123 dX8_undo_94 (by decide) (by omega) (by omega) (fun c_94 => by omega) (fun c_94 => ?_)
    refine r_aload_0 dX8_undo_97 ?_
    refine r_getR (a := 82) dX8_undo_98 fl_X8_37 rfl rfl ?_
    refine r_iload_1 dX8_undo_101 ?_
    refine r_aload_0 dX8_undo_102 ?_
    refine r_getR (a := 97) dX8_undo_103 fl_X8_90 rfl rfl ?_
    refine r_bipush (v := nI 14) dX8_undo_106 (by decide) ?_
    refine r_aload_0 dX8_undo_108 ?_
    refine r_getI dX8_undo_109 fl_X8_238 rfl ?_
    rw [e]
    refine r_imul dX8_undo_112 ?_
    rw [nI_mu9]
    refine r_iload_1 dX8_undo_113 ?_
    refine r_iadd dX8_undo_114 ?_
    rw [nI_ad9]
    refine r_ialdN dX8_undo_115 rfl (by omega) ?_
    refine r_iastN dX8_undo_116 rfl (by omega) ?_
    refine r_iincN_1 dX8_undo_117 ?_
    refine r_goto 91 dX8_undo_120 (by decide) ?_
    refine ih (k + 1) _ (by omega) (fun i hi => ?_) (fr.pI (by decide) rfl)
    by_cases q : i = k
    · rw [q, pI_eq, eB]
    · rw [pI_ne 82 _ (Or.inr q)]; exact h1 i (by omega)
set_option maxRecDepth 100000 in
set_option maxHeartbeats 4000000 in
theorem o_undo {h : PH} (i : INV h) : Same2 mX7_undo 7 [.ref 0] mX8_undo 7 [.ref 74] h := by
  have i0 := i
  obtain ⟨n0, bs, tr, fl, wp, t, nm, ac, ms, i1, i2, i3, i4, i5, i6⟩ := i
  have hb := i3.e
  have f6 : ∀ y, (clH h y).1 74 6 = nI (NT.J t) := fun y => by rw [clH_1 (by decide)]; exact i6.1
  by_cases hJ : 0 < NT.J t
  · have ac0 := (i3.2.2.2 hJ).2.2.2.2.2.1
    have am0 : ∀ {h1 : PH}, kM h h1 → h1.1 74 51 = nI ac.length := fun kk => ((i6.k kk).2.2.2.2.2 hJ).2.2.2.1.1
    have nJ : ¬ nI (NT.J t) = 0 := fun q => by have := nI_jn (a := NT.J t) (b := 0) (by omega) (by omega) q; omega
    by_cases hz : ac.length = 0
    · refine Same.to2 i0 ⟨.int (-1), 5, by decide, ?_, ?_⟩
      · refine Con.mk (by decide) ?_
        show RT _ _ 0 [some (.ref 0)] [] _ _
        refine r_aload_0 dX7_undo_0 ?_
        refine r_cV0 mX7_hasText dX7_undo_1 ml_X7_101 mo_X7_hasText rfl (k_hasText hb.1 i3.1) (by decide) ?_
        rw [b2i_t hJ]
        refine r_if_ne 13 dX7_undo_4 (by decide) (fun c_4 => ?_) (fun c_4 => by exact absurd c_4 (by decide))
        refine r_aload_0 dX7_undo_13 ?_
        refine r_getR (a := 68) dX7_undo_14 fl_X7_47 rfl rfl ?_
        refine r_getI dX7_undo_17 fl_X7_89 rfl ?_
        rw [ac0.1, hz]
        refine r_if_ne 29 dX7_undo_20 (by decide) (fun c_20 => by exact absurd rfl c_20) (fun c_20 => ?_)
        refine r_aload_0 dX7_undo_23 ?_
        refine r_iconst (v := 5) dX7_undo_24 (by decide) ?_
        refine r_cV1 mX7_refuse dX7_undo_25 ml_X7_65 mo_X7_refuse rfl (k_refuse h 5) (by decide) ?_
        refine r_iret dX7_undo_28 rfl ?_
        exact ⟨rfl, rfl⟩
      · refine Con.mk (by decide) ?_
        show RT _ _ 0 [some (.ref 74), none] [] _ _
        refine r_aload_0 dX8_undo_0 ?_
        refine r_aload_0 dX8_undo_1 ?_
        refine r_getI dX8_undo_2 fl_X8_229 rfl ?_
        rw [f6 5]
        refine r_if_ne 12 dX8_undo_5 (by decide) (fun c_5 => ?_) (fun c_5 => by exact absurd c_5 nJ)
        refine r_aload_0 dX8_undo_12 ?_
        refine r_getI dX8_undo_13 fl_X8_238 rfl ?_
        rw [am0 clH_kM, hz]
        refine r_if_ne 23 dX8_undo_16 (by decide) (fun c_16 => by exact absurd rfl c_16) (fun c_16 => ?_)
        refine r_iconst (v := 5) dX8_undo_19 (by decide) ?_
        refine r_goto 24 dX8_undo_20 (by decide) ?_
        refine r_cV1 mX8_isRefused dX8_undo_24 ml_X8_245 mo_X8_isRefused rfl (q_isRefused _ _) (by decide) ?_
        rw [b2i_t (by decide)]
        refine r_if_eq 32 dX8_undo_27 (by decide) (fun c_27 => by exact absurd c_27 (by decide)) (fun c_27 => ?_)
        refine r_iconst (v := (-1)) dX8_undo_30 (by decide) ?_
        refine r_iret dX8_undo_31 rfl ?_
        exact ⟨rfl, rfl⟩
    · obtain ⟨n, hn⟩ : ∃ n, n + 1 = ac.length := ⟨ac.length - 1, by omega⟩
      obtain ⟨tx, nok, mok, sc, nac, acc, mec⟩ := (i3.k (clH_kC (x := 0))).2.2.2 hJ
      have l12 := acc.2.1
      obtain ⟨tx0, tb⟩ := acc.2.2 n (by omega)
      rw [show n + 1 = ac.length from hn, acAt_len] at tb
      obtain ⟨u1, u2, u3, u4, u5, u6, u7, u8⟩ := tb.same
      have nn : ¬ nI ac.length = 0 := fun q => hz (nI_jn (b := 0) (by omega) (by omega) q)
      have hl : (ac.take n).length = n := by rw [List.length_take]; omega
      have sub1 : nI ac.length - nI 1 = nI n := by rw [← hn, ← nI_ad9]; exact Int32.add_sub_cancel _ _
      have aa : ActC (pI (clH h 0) 68 0 (nI n)) (acAt ac t n) (ac.take n) := by
        refine ⟨by rw [hl]; exact pI_eq, by omega, fun k hk => ?_⟩
        rw [hl] at hk
        rw [acAt_take (by omega) (by omega), acAt_take (by omega) (by omega), pI_ne 69 k (Or.inl (by decide)), pI_ne 70 k (Or.inl (by decide)), pI_ne 71 k (Or.inl (by decide))]
        exact acc.2.2 k (by omega)
      refine ⟨.int (nI n), fun h1 => CX h1 (acAt ac t n) nm (ac.take n) ms ∧ h1.1 0 = (clH h 0).1 0 ∧ h1.1 1 = h.1 1 ∧ kM h h1, fun h1 h2 => RawM h2 (acAt ac t n) ∧ SolM h2 (acAt ac t n) (solveS (snOf (acAt ac t n))) ∧ ActM h2 (acAt ac t n) (ac.take n) ∧ FM acS acF (rfH h1 0) h2, ?_, fun h1 q => ?_, fun h1 h2 q z => inv_act (t' := acAt ac t n) i1 i2 i4 i5 i6 hJ u1 q z⟩
      · refine Con.mk (by decide) ?_
        show RT _ _ 0 [some (.ref 0)] [] _ _
        refine r_aload_0 dX7_undo_0 ?_
        refine r_cV0 mX7_hasText dX7_undo_1 ml_X7_101 mo_X7_hasText rfl (k_hasText hb.1 i3.1) (by decide) ?_
        rw [b2i_t hJ]
        refine r_if_ne 13 dX7_undo_4 (by decide) (fun c_4 => ?_) (fun c_4 => by exact absurd c_4 (by decide))
        refine r_aload_0 dX7_undo_13 ?_
        refine r_getR (a := 68) dX7_undo_14 fl_X7_47 rfl rfl ?_
        refine r_getI dX7_undo_17 fl_X7_89 rfl ?_
        rw [ac0.1]
        refine r_if_ne 29 dX7_undo_20 (by decide) (fun c_20 => ?_) (fun c_20 => by exact absurd c_20 nn)
        refine r_aload_0 dX7_undo_29 ?_
        refine r_cW0 mX7_allow dX7_undo_30 ml_X7_79 mo_X7_allow rfl (k_allow h) (by decide) ?_
        refine r_aload_0 dX7_undo_33 ?_
        refine r_getR (a := 68) dX7_undo_34 fl_X7_47 rfl rfl ?_
        refine r_aload_0 dX7_undo_37 ?_
        refine r_getR (a := 15) dX7_undo_38 fl_X7_37 rfl rfl ?_
        refine r_cWQ1 mX0_takeBackLatest dX7_undo_41 ml_X7_311 mo_X0_takeBackLatest rfl (k_back hn acc tx sc.1) (by decide) (fun h1 p1 => ?_)
        obtain ⟨nc1, e1, f1⟩ := p1
        refine r_aload_0 dX7_undo_44 ?_
        refine r_cWQ0 mX7_settle dX7_undo_45 ml_X7_95 mo_X7_settle rfl (k_settle tx0.1 nc1) (by decide) (fun h3 p3 => ?_)
        obtain ⟨s3, e3, e4, f3⟩ := p3
        have pp := act_post i3 hJ u1 tx0 (ha := pI (clH h 0) 68 0 (nI n)) (Fr.rf.pI ⟨by omega, by omega⟩) aa f1 e1 s3 e3 e4 f3
        have ec : h3.1 68 0 = nI n := by rw [(f3 68 (fun q => by unfold rgW at q; omega)).1, (f1 68 (fun q => by omega)).1]; exact pI_eq
        refine r_aload_0 dX7_undo_48 ?_
        refine r_getR (a := 68) dX7_undo_49 fl_X7_47 rfl rfl ?_
        refine r_getI dX7_undo_52 fl_X7_89 rfl ?_
        rw [ec]
        refine r_iret dX7_undo_55 rfl ?_
        exact ⟨rfl, pp⟩
      · have kk := q.2.2.2
        have f6q : h1.1 74 6 = nI (NT.J t) := by rw [(kk 74 (by omega)).1]; exact i6.1
        obtain ⟨-, -, m44, m46, -, mm⟩ := (i6.k kk).rf 0
        obtain ⟨rwm, sm, nam, acm, mem⟩ := mm hJ
        obtain ⟨v1, v2, v3⟩ := acm.2 n (by omega)
        have g0 : FM acS acF (rfH h1 0) (pI (pI (rfH h1 0) 74 51 (nI n)) 74 17 (NT.cl (acAt ac t n))) := (FM.rf.pF (Or.inr (Or.inl rfl))).pF (Or.inr (Or.inr rfl))
        have gy : ∀ y, y ≠ 74 → (pI (pI (rfH h1 0) 74 51 (nI n)) 74 17 (NT.cl (acAt ac t n))).1 y = (rfH h1 0).1 y := fun y hy => funext fun k => (pI_ne y k (Or.inl hy)).trans (pI_ne y k (Or.inl hy))
        have g51 : (pI (pI (rfH h1 0) 74 51 (nI n)) 74 17 (NT.cl (acAt ac t n))).1 74 51 = nI n := (pI_ne 74 51 (Or.inr (by decide))).trans pI_eq
        have g17 : (pI (pI (rfH h1 0) 74 51 (nI n)) 74 17 (NT.cl (acAt ac t n))).1 74 17 = NT.cl (acAt ac t n) := pI_eq
        have gz : ∀ k, k ≠ 51 → k ≠ 17 → (pI (pI (rfH h1 0) 74 51 (nI n)) 74 17 (NT.cl (acAt ac t n))).1 74 k = (rfH h1 0).1 74 k := fun k a b => (pI_ne 74 k (Or.inr b)).trans (pI_ne 74 k (Or.inr a))
        refine Con.mk (by decide) ?_
        show RT _ _ 0 [some (.ref 74), none] [] _ _
        refine r_aload_0 dX8_undo_0 ?_
        refine r_aload_0 dX8_undo_1 ?_
        refine r_getI dX8_undo_2 fl_X8_229 rfl ?_
        rw [f6q]
        refine r_if_ne 12 dX8_undo_5 (by decide) (fun c_5 => ?_) (fun c_5 => by exact absurd c_5 nJ)
        refine r_aload_0 dX8_undo_12 ?_
        refine r_getI dX8_undo_13 fl_X8_238 rfl ?_
        rw [am0 kk]
        refine r_if_ne 23 dX8_undo_16 (by decide) (fun c_16 => ?_) (fun c_16 => by exact absurd c_16 nn)
        refine r_iconst (v := 0) dX8_undo_23 (by decide) ?_
        refine r_cV1 mX8_isRefused dX8_undo_24 ml_X8_245 mo_X8_isRefused rfl (q_isRefused _ _) (by decide) ?_
        rw [b2i_f (by decide)]
        refine r_if_eq 32 dX8_undo_27 (by decide) (fun c_27 => ?_) (fun c_27 => by exact absurd rfl c_27)
        refine r_aload_0 dX8_undo_32 ?_
        refine r_dupr dX8_undo_33 ?_
        refine r_getI dX8_undo_34 fl_X8_238 rfl ?_
        rw [show (rfH h1 0).1 74 51 = nI ac.length from acm.1]
        refine r_iconst (v := nI 1) dX8_undo_37 (by decide) ?_
        refine r_isub dX8_undo_38 ?_
        rw [sub1]
        refine r_putI dX8_undo_39 fl_X8_238 rfl rfl rfl ?_
        refine r_aload_0 dX8_undo_42 ?_
        refine r_aload_0 dX8_undo_43 ?_
        refine r_getR (a := 98) dX8_undo_44 fl_X8_93 rfl rfl ?_
        refine r_aload_0 dX8_undo_47 ?_
        refine r_getI dX8_undo_48 fl_X8_238 rfl ?_
        rw [show (pI (rfH h1 0) 74 51 (nI n)).1 74 51 = nI n from pI_eq]
        refine r_ialdN dX8_undo_51 rfl (by omega) ?_
        rw [show (pI (rfH h1 0) 74 51 (nI n)).1 98 n = NT.cl (acAt ac t n) from (pI_ne 98 n (Or.inl (by decide))).trans v1]
        refine r_putI dX8_undo_52 fl_X8_235 rfl rfl rfl ?_
        refine r_iconst (v := nI 0) dX8_undo_55 (by decide) ?_
        refine r_istore_1 dX8_undo_56 ?_
        generalize eH : pI (pI (rfH h1 0) 74 51 (nI n)) 74 17 (NT.cl (acAt ac t n)) = H at g0 gy g51 g17 gz
        refine un_76 H (n := n) (by omega) g51 (fun h3 s3 f3 => ?_) 9 0 H (by omega) (fun i hi => by omega) FM.rf
        refine r_iconst (v := nI 0) dX8_undo_89 (by decide) ?_
        refine r_istore_1 dX8_undo_90 ?_
        refine un_82 h3 (n := n) (by omega) ((f3.1 51 id).trans g51) (fun h4 s4 f4 => ?_) 14 0 h3 (by omega) (fun i hi => by omega) FM.rf
        have z4 : ∀ k, h4.1 74 k = H.1 74 k := fun k => (f4.1 k id).trans (f3.1 k id)
        have y4 : ∀ y, y ≠ 74 → y ≠ 76 → y ≠ 82 → h4.1 y = (rfH h1 0).1 y := fun y a b c => ((f4.2.1 y a c).1.trans (f3.2.1 y a b).1).trans (gy y a)
        have r4 : RawM h4 (acAt ac t n) := by
          obtain ⟨r1, r2, r3, r4, r5⟩ := rwm
          refine ⟨by rw [z4 6, gz 6 (by decide) (by decide), u1]; exact r1, by rw [z4 7, gz 7 (by decide) (by decide), u2]; exact r2, by rw [z4 17]; exact g17, fun j hj => ?_, fun e he => ?_⟩
          · rw [u1] at hj
            have hJ9 := tx.1.2.1
            refine ⟨?_, by rw [y4 77 (by decide) (by decide) (by decide), u8]; exact (r4 j hj).2⟩
            rw [(f4.2.1 76 (by decide) (by decide)).1, s3 j (by omega), gy 96 (by decide)]; exact v2 j hj
          · rw [u2] at he
            have hE14 := tx.1.2.2.1
            obtain ⟨e1, e2, e3, e4, e5, e6⟩ := r5 e he
            rw [y4 79 (by decide) (by decide) (by decide), y4 80 (by decide) (by decide) (by decide), y4 81 (by decide) (by decide) (by decide), y4 83 (by decide) (by decide) (by decide), y4 84 (by decide) (by decide) (by decide), u3, u4, u5, u6, u7]
            refine ⟨e1, e2, e3, ?_, e5, e6⟩
            rw [s4 e (by omega), (f3.2.1 97 (by decide) (by decide)).1, gy 97 (by decide)]; exact v3 e he
        have a4 : ActM h4 (acAt ac t n) (ac.take n) := by
          refine ⟨by rw [hl, z4 51]; exact g51, fun k hk => ?_⟩
          rw [hl] at hk
          rw [acAt_take (by omega) (by omega), y4 96 (by decide) (by decide) (by decide), y4 97 (by decide) (by decide) (by decide), y4 98 (by decide) (by decide) (by decide), u1, u2]
          exact acm.2 k (by omega)
        have ff : FM acS acF (rfH h1 0) h4 := (g0.tr (f3.wk (fun y q => Or.inr (Or.inr (Or.inl q))) (fun k q => q.elim))).tr (f4.wk (fun y q => Or.inr (Or.inr (Or.inr q))) (fun k q => q.elim))
        have nc4 : NetM h4 (acAt ac t n) := r4.net tx0 (by rw [z4 44, gz 44 (by decide) (by decide)]; exact m44) (by rw [z4 46, gz 46 (by decide) (by decide)]; exact m46)
        refine r_aload_0 dX8_undo_123 ?_
        refine r_cWQ0 mX8_solves dX8_undo_124 ml_X8_260 mo_X8_solves rfl (q_solves tx0.1 nc4) (by decide) (fun h5 p5 => ?_)
        obtain ⟨s5, f5⟩ := p5
        have e5 : h5.1 74 51 = nI n := (f5.1 51 (by unfold slF; omega)).trans ((z4 51).trans g51)
        refine r_aload_0 dX8_undo_127 ?_
        refine r_getI dX8_undo_128 fl_X8_238 rfl ?_
        rw [e5]
        refine r_iret dX8_undo_131 rfl ?_
        exact ⟨rfl, r4.fm f5.toG, s5, a4.fm f5, ff.tr (fm_ac1 f5)⟩
  · have hJ0 : NT.J t = 0 := by omega
    refine Same.to2 i0 ⟨.int (-1), 1, by decide, ?_, ?_⟩
    · refine Con.mk (by decide) ?_
      show RT _ _ 0 [some (.ref 0)] [] _ _
      refine r_aload_0 dX7_undo_0 ?_
      refine r_cV0 mX7_hasText dX7_undo_1 ml_X7_101 mo_X7_hasText rfl (k_hasText hb.1 i3.1) (by decide) ?_
      rw [b2i_f hJ]
      refine r_if_ne 13 dX7_undo_4 (by decide) (fun c_4 => by exact absurd rfl c_4) (fun c_4 => ?_)
      refine r_aload_0 dX7_undo_7 ?_
      refine r_iconst (v := 1) dX7_undo_8 (by decide) ?_
      refine r_cV1 mX7_refuse dX7_undo_9 ml_X7_65 mo_X7_refuse rfl (k_refuse h 1) (by decide) ?_
      refine r_iret dX7_undo_12 rfl ?_
      exact ⟨rfl, rfl⟩
    · refine Con.mk (by decide) ?_
      show RT _ _ 0 [some (.ref 74), none] [] _ _
      refine r_aload_0 dX8_undo_0 ?_
      refine r_aload_0 dX8_undo_1 ?_
      refine r_getI dX8_undo_2 fl_X8_229 rfl ?_
      rw [f6 1, hJ0]
      refine r_if_ne 12 dX8_undo_5 (by decide) (fun c_5 => by exact absurd rfl c_5) (fun c_5 => ?_)
      refine r_iconst (v := 1) dX8_undo_8 (by decide) ?_
      refine r_goto 24 dX8_undo_9 (by decide) ?_
      refine r_cV1 mX8_isRefused dX8_undo_24 ml_X8_245 mo_X8_isRefused rfl (q_isRefused _ _) (by decide) ?_
      rw [b2i_t (by decide)]
      refine r_if_eq 32 dX8_undo_27 (by decide) (fun c_27 => by exact absurd c_27 (by decide)) (fun c_27 => ?_)
      refine r_iconst (v := (-1)) dX8_undo_30 (by decide) ?_
      refine r_iret dX8_undo_31 rfl ?_
      exact ⟨rfl, rfl⟩

