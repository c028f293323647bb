/-! ===== the reference: named ===== -/
set_option maxRecDepth 100000 in
set_option maxHeartbeats 4000000 in
theorem mn1 {h : PH} {n : Nat} {B : Nat → Nat} (ok : OKB n B) (hb : ∀ i, i < n → h.1 75 i = nI (B i)) {y : Int32} {Q : Option Value → PH → Prop} : ∀ (m q : Nat), q + m = n → RT mX8_named 2 49 [some (.ref 74), some (.int y), some (.int (nI (runS isSp B m q))), some (.int (nI n)), none] [] h Q → RT mX8_named 2 27 [some (.ref 74), some (.int y), some (.int (nI q)), some (.int (nI n)), none] [] h Q := by
  have hn := ok.1
  intro m
  induction m with
  | zero =>
    intro q hq K
    refine r_iload_2 dX8_named_27 ?_
    refine r_iload_3 dX8_named_28 ?_
    refine r_icmpN_ge 49 dX8_named_29 (by decide) (by omega) (by omega) (fun c_29 => ?_) (fun c_29 => by omega)
    exact K
  | succ m ih =>
    intro q hq K
    have hc := (nB_c (ok.2 q (by omega))).1
    unfold runS at K
    by_cases hl : B q = 32
    · rw [if_pos (by unfold isSp; exact decide_eq_true hl)] at K
      refine r_iload_2 dX8_named_27 ?_
      refine r_iload_3 dX8_named_28 ?_
      refine r_icmpN_ge 49 dX8_named_29 (by decide) (by omega) (by omega) (fun c_29 => by omega) (fun c_29 => ?_)
      refine r_aload_0 dX8_named_32 ?_
      refine r_getR (a := 75) dX8_named_33 fl_X8_15 rfl rfl ?_
      refine r_iload_2 dX8_named_36 ?_
      refine r_ialdN dX8_named_37 rfl (by omega) ?_
      rw [hb q (by omega)]
      refine r_bipush (v := 32) dX8_named_38 (by decide) ?_
      refine r_icmp_ne 49 dX8_named_40 (by decide) (fun c_40 => by exact absurd (hc.mpr hl) c_40) (fun c_40 => ?_)
      refine r_iincN_2 dX8_named_43 ?_
      refine r_goto 27 dX8_named_46 (by decide) ?_
      exact ih (q + 1) (by omega) K
    · rw [if_neg (by unfold isSp; simp [hl])] at K
      refine r_iload_2 dX8_named_27 ?_
      refine r_iload_3 dX8_named_28 ?_
      refine r_icmpN_ge 49 dX8_named_29 (by decide) (by omega) (by omega) (fun c_29 => by omega) (fun c_29 => ?_)
      refine r_aload_0 dX8_named_32 ?_
      refine r_getR (a := 75) dX8_named_33 fl_X8_15 rfl rfl ?_
      refine r_iload_2 dX8_named_36 ?_
      refine r_ialdN dX8_named_37 rfl (by omega) ?_
      rw [hb q (by omega)]
      refine r_bipush (v := 32) dX8_named_38 (by decide) ?_
      refine r_icmp_ne 49 dX8_named_40 (by decide) (fun c_40 => ?_) (fun c_40 => by exact absurd (hc.mp c_40) hl)
      exact K
set_option maxRecDepth 100000 in
set_option maxHeartbeats 4000000 in
theorem mn2 {h : PH} {n s : Nat} {B : Nat → Nat} (ok : OKB n B) (hb : ∀ i, i < n → h.1 75 i = nI (B i)) {y : Int32} {Q : Option Value → PH → Prop} : ∀ (d : Nat), s + d ≤ n → RT mX8_named 2 73 [some (.ref 74), some (.int y), some (.int (nI s)), some (.int (nI (trB B s d))), none] [] h Q → RT mX8_named 2 49 [some (.ref 74), some (.int y), some (.int (nI s)), some (.int (nI (s + d))), none] [] h Q := by
  have hn := ok.1
  intro d
  induction d with
  | zero =>
    intro hd K
    refine r_iload_3 dX8_named_49 ?_
    refine r_iload_2 dX8_named_50 ?_
    refine r_icmpN_le 73 dX8_named_51 (by decide) (by omega) (by omega) (fun c_51 => ?_) (fun c_51 => by omega)
    exact K
  | succ d ih =>
    intro hd K
    have hc := (nB_c (ok.2 (s + d) (by omega))).1
    unfold trB at K
    by_cases hl : B (s + d) = 32
    · rw [if_pos hl] at K
      refine r_iload_3 dX8_named_49 ?_
      refine r_iload_2 dX8_named_50 ?_
      refine r_icmpN_le 73 dX8_named_51 (by decide) (by omega) (by omega) (fun c_51 => by omega) (fun c_51 => ?_)
      refine r_aload_0 dX8_named_54 ?_
      refine r_getR (a := 75) dX8_named_55 fl_X8_15 rfl rfl ?_
      refine r_iload_3 dX8_named_58 ?_
      refine r_iconst (v := nI 1) dX8_named_59 (by decide) ?_
      refine r_isub dX8_named_60 ?_
      rw [nI_sb (by omega), show s + (d + 1) - 1 = s + d by omega]
      refine r_ialdN dX8_named_61 rfl (by omega) ?_
      rw [hb (s + d) (by omega)]
      refine r_bipush (v := 32) dX8_named_62 (by decide) ?_
      refine r_icmp_ne 73 dX8_named_64 (by decide) (fun c_64 => by exact absurd (hc.mpr hl) c_64) (fun c_64 => ?_)
      refine r_idecN_3 dX8_named_67 ?_
      refine r_goto 49 dX8_named_70 (by decide) ?_
      exact ih (by omega) K
    · rw [if_neg hl] at K
      refine r_iload_3 dX8_named_49 ?_
      refine r_iload_2 dX8_named_50 ?_
      refine r_icmpN_le 73 dX8_named_51 (by decide) (by omega) (by omega) (fun c_51 => by omega) (fun c_51 => ?_)
      refine r_aload_0 dX8_named_54 ?_
      refine r_getR (a := 75) dX8_named_55 fl_X8_15 rfl rfl ?_
      refine r_iload_3 dX8_named_58 ?_
      refine r_iconst (v := nI 1) dX8_named_59 (by decide) ?_
      refine r_isub dX8_named_60 ?_
      rw [nI_sb (by omega), show s + (d + 1) - 1 = s + d by omega]
      refine r_ialdN dX8_named_61 rfl (by omega) ?_
      rw [hb (s + d) (by omega)]
      refine r_bipush (v := 32) dX8_named_62 (by decide) ?_
      refine r_icmp_ne 73 dX8_named_64 (by decide) (fun c_64 => ?_) (fun c_64 => by exact absurd (hc.mp c_64) hl)
      exact K
set_option maxRecDepth 100000 in
set_option maxHeartbeats 4000000 in
theorem mn3 {h : PH} {n s e : Nat} {B : Nat → Nat} (ok : OKB n B) (hb : ∀ i, i < n → h.1 75 i = nI (B i)) (he : e ≤ n) (hse : s < e) {t : NT} {nm : NMS} (hJ : NT.J t ≤ 9) (k6 : h.1 74 6 = nI (NT.J t)) (no : nmOK t nm) (na : NamM h 0 t nm) {y : Int32} : ∀ (m j : Nat), j + m = NT.J t → RT mX8_named 2 76 [some (.ref 74), some (.int y), some (.int (nI s)), some (.int (nI e)), some (.int (nI j))] [] h (fun a h' => (∀ i, (fnd (fun j => decide (nm j = wdL B s e)) j m) = some i → a = some (.int (nI i)) ∧ h' = h) ∧ ((fnd (fun j => decide (nm j = wdL B s e)) j m) = none → a = some (.int 0) ∧ h' = pI h 74 0 1)) := by
  have hn := ok.1
  intro m
  induction m with
  | zero =>
    intro j hj
    refine r_iload_3 dX8_named_76 ?_
    refine r_iload_2 dX8_named_77 ?_
    refine r_icmpN_le 113 dX8_named_78 (by decide) (by omega) (by omega) (fun c_78 => by omega) (fun c_78 => ?_)
    refine r_iload_4 dX8_named_81 ?_
    refine r_aload_0 dX8_named_83 ?_
    refine r_getI dX8_named_84 fl_X8_229 rfl ?_
    rw [k6]
    refine r_icmpN_ge 113 dX8_named_87 (by decide) (by omega) (by omega) (fun c_87 => ?_) (fun c_87 => by omega)
    refine r_aload_0 dX8_named_113 ?_
    refine r_iconst (v := 1) dX8_named_114 (by decide) ?_
    refine r_putI dX8_named_115 fl_X8_96 rfl rfl rfl ?_
    refine r_iconst (v := 0) dX8_named_118 (by decide) ?_
    refine r_iret dX8_named_119 rfl ?_
    exact ⟨fun i q => (by cases q), fun _ => ⟨rfl, rfl⟩⟩
  | succ m ih =>
    intro j hj
    have hs : ∀ k, k < 6 → h.1 78 (6 * j + k) = nI ((nm j).getD k 0) := fun k hk => by
      have q := na j (by omega) k hk
      rw [Nat.zero_add] at q
      rw [q]
      by_cases z : k < (nm j).length
      · rw [if_pos z]
      · rw [if_neg z, getD_out (by omega)]; rfl
    have ca := q_isAt ok hb (a := 6 * j) (f := s) (t := e) (by omega) he (by omega) (no j (by omega)).2.2 (no j (by omega)).2.1 hs
    rw [fnd_s]
    by_cases q : nm j = wdL B s e
    · rw [if_pos (decide_eq_true q)]
      rw [b2i_t (show wdL B s e = nm j from q.symm)] at ca
      refine r_iload_3 dX8_named_76 ?_
      refine r_iload_2 dX8_named_77 ?_
      refine r_icmpN_le 113 dX8_named_78 (by decide) (by omega) (by omega) (fun c_78 => by omega) (fun c_78 => ?_)
      refine r_iload_4 dX8_named_81 ?_
      refine r_aload_0 dX8_named_83 ?_
      refine r_getI dX8_named_84 fl_X8_229 rfl ?_
      rw [k6]
      refine r_icmpN_ge 113 dX8_named_87 (by decide) (by omega) (by omega) (fun c_87 => by omega) (fun c_87 => ?_)
      refine r_aload_0 dX8_named_90 ?_
      refine r_bipush (v := nI 6) dX8_named_91 (by decide) ?_
      refine r_iload_4 dX8_named_93 ?_
      refine r_imul dX8_named_95 ?_
      rw [nI_mu9]
      refine r_iload_2 dX8_named_96 ?_
      refine r_iload_3 dX8_named_97 ?_
      refine r_cV3 mX8_isAt dX8_named_98 ml_X8_177 mo_X8_isAt rfl ca (by decide) ?_
      refine r_if_eq 107 dX8_named_101 (by decide) (fun c_101 => by exact absurd c_101 (by decide)) (fun c_101 => ?_)
      refine r_iload_4 dX8_named_104 ?_
      refine r_iret dX8_named_106 rfl ?_
      exact ⟨fun i z => (by cases z; exact ⟨rfl, rfl⟩), fun z => (by cases z)⟩
    · rw [if_neg (by rw [decide_eq_true_iff]; exact q)]
      rw [b2i_f (show ¬ wdL B s e = nm j from fun z => q z.symm)] at ca
      refine r_iload_3 dX8_named_76 ?_
      refine r_iload_2 dX8_named_77 ?_
      refine r_icmpN_le 113 dX8_named_78 (by decide) (by omega) (by omega) (fun c_78 => by omega) (fun c_78 => ?_)
      refine r_iload_4 dX8_named_81 ?_
      refine r_aload_0 dX8_named_83 ?_
      refine r_getI dX8_named_84 fl_X8_229 rfl ?_
      rw [k6]
      refine r_icmpN_ge 113 dX8_named_87 (by decide) (by omega) (by omega) (fun c_87 => by omega) (fun c_87 => ?_)
      refine r_aload_0 dX8_named_90 ?_
      refine r_bipush (v := nI 6) dX8_named_91 (by decide) ?_
      refine r_iload_4 dX8_named_93 ?_
      refine r_imul dX8_named_95 ?_
      rw [nI_mu9]
      refine r_iload_2 dX8_named_96 ?_
      refine r_iload_3 dX8_named_97 ?_
      refine r_cV3 mX8_isAt dX8_named_98 ml_X8_177 mo_X8_isAt rfl ca (by decide) ?_
      refine r_if_eq 107 dX8_named_101 (by decide) (fun c_101 => ?_) (fun c_101 => by exact absurd rfl c_101)
      refine r_iincN_4 dX8_named_107 ?_
      refine r_goto 76 dX8_named_110 (by decide) ?_
      exact ih (j + 1) (by omega)
set_option maxRecDepth 100000 in
set_option maxHeartbeats 4000000 in
theorem q_named {h : PH} {t : NT} {nm : NMS} {ac : List NT} {ms : MES} (mx : MX h t nm ac ms) (okn : 0 < NT.J t → NT.J t ≤ 9 ∧ nmOK t nm) {n0 : Nat} {B : Nat → Nat} (ok : OKB n0 B) (e0 : h.1 74 5 = nI n0) (hb : ∀ i, i < n0 → h.1 75 i = nI (B i)) (x : Int32) : Con mX8_named 2 [.ref 74, .int x] h (fun a h' => (∀ i, (nmF nm (NT.J t) B n0 x) = some i → a = some (.int (nI i)) ∧ h' = (pI h 74 0 0)) ∧ ((nmF nm (NT.J t) B n0 x) = none → a = some (.int 0) ∧ h' = pI (pI h 74 0 0) 74 0 1)) := by
  have h0 := ok.1
  have g5 : (pI h 74 0 0).1 74 5 = nI n0 := (pI_ne 74 5 (Or.inr (by decide))).trans e0
  have g6 : (pI h 74 0 0).1 74 6 = nI (NT.J t) := (pI_ne 74 6 (Or.inr (by decide))).trans mx.1
  have gb : ∀ i, i < n0 → (pI h 74 0 0).1 75 i = nI (B i) := fun i hi => (pI_ne 75 i (Or.inl (by decide))).trans (hb i hi)
  have gn : 0 < NT.J t → NamM (pI h 74 0 0) 0 t nm := fun q j hj k hk => by rw [pI_ne 78 _ (Or.inl (by decide))]; exact (mx.2.2.2.2.2 q).2.2.1 j hj k hk
  refine Con.mk (by decide) ?_
  show RT _ _ 0 [some (.ref 74), some (.int x), none, none, none] [] _ _
  by_cases hx : (0 : Int32) ≤ x ∧ x ≤ nI n0
  · obtain ⟨n, hn, rfl⟩ := ex_le (k := n0) (by omega) hx
    have enf : nmF nm (NT.J t) B n0 (nI n) = jH nm (NT.J t) (nW B n) := by unfold nmF; rw [if_pos hx, nI_toInt (by omega)]; rfl
    refine r_aload_0 dX8_named_0 ?_
    refine r_iconst (v := 0) dX8_named_1 (by decide) ?_
    refine r_putI dX8_named_2 fl_X8_96 rfl rfl rfl ?_
    refine r_iconst (v := nI 0) dX8_named_5 (by decide) ?_
    refine r_istore_2 dX8_named_6 ?_
    refine r_iload_1 dX8_named_7 ?_
    refine r_i2l dX8_named_8 ?_
    refine r_lconst (v := 0) dX8_named_9 (by decide) ?_
    refine r_aload_0 dX8_named_10 ?_
    refine r_getI dX8_named_11 fl_X8_104 rfl ?_
    rw [g5]
    refine r_i2l dX8_named_14 ?_
    refine r_cS3 mX8_in dX8_named_15 ml_X8_131 mo_X8_in (q_in _ _ _ _) (by decide) ?_
    rw [b2i_c (show ((0 : Int64) ≤ (nI n).toInt64 ∧ (nI n).toInt64 ≤ (nI n0).toInt64) ↔ _ from in_32 (lo := 0)), b2i_t hx]
    refine r_if_eq 25 dX8_named_18 (by decide) (fun c_18 => by exact absurd c_18 (by decide)) (fun c_18 => ?_)
    refine r_iload_1 dX8_named_21 ?_
    refine r_goto 26 dX8_named_22 (by decide) ?_
    refine r_istore_3 dX8_named_26 ?_
    have le := nB_le (B := B) (n := n)
    refine mn1 (n := n) ⟨by omega, fun i hi => ok.2 i (by omega)⟩ (fun i hi => gb i (by omega)) n 0 (by omega) ?_
    have e1 : runS isSp B n 0 = nB B n := rfl
    rw [e1]
    have w2 := @mn2 (pI h 74 0 0) n (nB B n) B ⟨by omega, fun i hi => ok.2 i (by omega)⟩ (fun i hi => gb i (by omega)) (nI n) (fun a h' => (∀ i, (nmF nm (NT.J t) B n0 (nI n)) = some i → a = some (.int (nI i)) ∧ h' = (pI h 74 0 0)) ∧ ((nmF nm (NT.J t) B n0 (nI n)) = none → a = some (.int 0) ∧ h' = pI (pI h 74 0 0) 74 0 1)) (n - nB B n) (by omega)
    rw [show nB B n + (n - nB B n) = n by omega] at w2
    refine w2 ?_
    have e2 : trB B (nB B n) (n - nB B n) = nE B n := rfl
    rw [e2]
    by_cases hw : nB B n < nE B n
    · by_cases hJ : 0 < NT.J t
      · obtain ⟨hJ9, no⟩ := okn hJ
        refine r_iconst (v := nI 0) dX8_named_73 (by decide) ?_
        refine r_istore_4 dX8_named_74 ?_
        have m3 := mn3 (n := n) (e := nE B n) (s := nB B n) (B := B) ⟨by omega, fun i hi => ok.2 i (by omega)⟩ (fun i hi => gb i (by omega)) le.2.2 hw hJ9 g6 no (gn hJ) (y := (nI n)) (NT.J t) 0 (by omega)
        have en : (nmF nm (NT.J t) B n0 (nI n)) = fnd (fun j => decide (nm j = wdL B (nB B n) (nE B n))) 0 (NT.J t) := enf
        rw [en]
        exact m3
      · have hJ0 : NT.J t = 0 := by omega
        have en : (nmF nm (NT.J t) B n0 (nI n)) = none := by rw [show (nmF nm (NT.J t) B n0 (nI n)) = jH nm (NT.J t) (nW B n) from enf, hJ0]; rfl
        refine r_iconst (v := nI 0) dX8_named_73 (by decide) ?_
        refine r_istore_4 dX8_named_74 ?_
        refine r_iload_3 dX8_named_76 ?_
        refine r_iload_2 dX8_named_77 ?_
        refine r_icmpN_le 113 dX8_named_78 (by decide) (by omega) (by omega) (fun c_78 => by omega) (fun c_78 => ?_)
        refine r_iload_4 dX8_named_81 ?_
        refine r_aload_0 dX8_named_83 ?_
        refine r_getI dX8_named_84 fl_X8_229 rfl ?_
        rw [g6, show nI (NT.J t) = nI 0 by rw [hJ0]]
        refine r_icmpN_ge 113 dX8_named_87 (by decide) (by omega) (by omega) (fun c_87 => ?_) (fun c_87 => by omega)
        refine r_aload_0 dX8_named_113 ?_
        refine r_iconst (v := 1) dX8_named_114 (by decide) ?_
        refine r_putI dX8_named_115 fl_X8_96 rfl rfl rfl ?_
        refine r_iconst (v := 0) dX8_named_118 (by decide) ?_
        refine r_iret dX8_named_119 rfl ?_
        exact ⟨fun i q => absurd (en.symm.trans q) (fun z => by cases z), fun _ => ⟨rfl, rfl⟩⟩
    · skip
      have en : (nmF nm (NT.J t) B n0 (nI n)) = none := by
        rw [show (nmF nm (NT.J t) B n0 (nI n)) = jH nm (NT.J t) (nW B n) from enf]
        cases hq : jH nm (NT.J t) (nW B n) with
        | none => rfl
        | some i =>
          exfalso
          have hi := jH_lt hq
          have hd := (fnd_lt hq).2.2
          have hd := of_decide_eq_true hd
          have l1 := ((okn (by omega)).2 i hi).1
          rw [hd] at l1
          unfold nW at l1
          rw [wdL_len] at l1
          omega
      refine r_iconst (v := nI 0) dX8_named_73 (by decide) ?_
      refine r_istore_4 dX8_named_74 ?_
      refine r_iload_3 dX8_named_76 ?_
      refine r_iload_2 dX8_named_77 ?_
      refine r_icmpN_le 113 dX8_named_78 (by decide) (by omega) (by omega) (fun c_78 => ?_) (fun c_78 => by omega)
      refine r_aload_0 dX8_named_113 ?_
      refine r_iconst (v := 1) dX8_named_114 (by decide) ?_
      refine r_putI dX8_named_115 fl_X8_96 rfl rfl rfl ?_
      refine r_iconst (v := 0) dX8_named_118 (by decide) ?_
      refine r_iret dX8_named_119 rfl ?_
      exact ⟨fun i q => absurd (en.symm.trans q) (fun z => by cases z), fun _ => ⟨rfl, rfl⟩⟩
  · have enf : nmF nm (NT.J t) B n0 x = none := by unfold nmF; rw [if_neg hx]
    refine r_aload_0 dX8_named_0 ?_
    refine r_iconst (v := 0) dX8_named_1 (by decide) ?_
    refine r_putI dX8_named_2 fl_X8_96 rfl rfl rfl ?_
    refine r_iconst (v := nI 0) dX8_named_5 (by decide) ?_
    refine r_istore_2 dX8_named_6 ?_
    refine r_iload_1 dX8_named_7 ?_
    refine r_i2l dX8_named_8 ?_
    refine r_lconst (v := 0) dX8_named_9 (by decide) ?_
    refine r_aload_0 dX8_named_10 ?_
    refine r_getI dX8_named_11 fl_X8_104 rfl ?_
    rw [g5]
    refine r_i2l dX8_named_14 ?_
    refine r_cS3 mX8_in dX8_named_15 ml_X8_131 mo_X8_in (q_in _ _ _ _) (by decide) ?_
    rw [b2i_c (show ((0 : Int64) ≤ x.toInt64 ∧ x.toInt64 ≤ (nI n0).toInt64) ↔ _ from in_32 (lo := 0)), b2i_f hx]
    refine r_if_eq 25 dX8_named_18 (by decide) (fun c_18 => ?_) (fun c_18 => by exact absurd rfl c_18)
    refine r_iconst (v := nI 0) dX8_named_25 (by decide) ?_
    refine r_istore_3 dX8_named_26 ?_
    refine r_iload_2 dX8_named_27 ?_
    refine r_iload_3 dX8_named_28 ?_
    refine r_icmpN_ge 49 dX8_named_29 (by decide) (by omega) (by omega) (fun c_29 => ?_) (fun c_29 => by omega)
    refine r_iload_3 dX8_named_49 ?_
    refine r_iload_2 dX8_named_50 ?_
    refine r_icmpN_le 73 dX8_named_51 (by decide) (by omega) (by omega) (fun c_51 => ?_) (fun c_51 => by omega)
    refine r_iconst (v := 0) dX8_named_73 (by decide) ?_
    refine r_istore_4 dX8_named_74 ?_
    refine r_iload_3 dX8_named_76 ?_
    refine r_iload_2 dX8_named_77 ?_
    refine r_icmpN_le 113 dX8_named_78 (by decide) (by omega) (by omega) (fun c_78 => ?_) (fun c_78 => by omega)
    refine r_aload_0 dX8_named_113 ?_
    refine r_iconst (v := 1) dX8_named_114 (by decide) ?_
    refine r_putI dX8_named_115 fl_X8_96 rfl rfl rfl ?_
    refine r_iconst (v := 0) dX8_named_118 (by decide) ?_
    refine r_iret dX8_named_119 rfl ?_
    exact ⟨fun i q => absurd (enf.symm.trans q) (fun z => by cases z), fun _ => ⟨rfl, rfl⟩⟩

