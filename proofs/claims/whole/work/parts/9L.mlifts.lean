/-! ===== the reference reads: edges ===== -/
theorem RdG.addE {h : PH} {t : NT} {nm : NMS} {E : Nat} (r : RdG h t nm E) {kd : Int32} {a b : Nat} {rr : Int32} (x1 : h.1 79 (14 + NT.E t) = nI a) (x2 : h.1 80 (14 + NT.E t) = nI b) (x3 : h.1 81 (14 + NT.E t) = kd) (x4 : h.1 82 (14 + NT.E t) = if kd = 2 then -2 else rr) (x5 : h.1 84 (14 + NT.E t) = 0) : RdG h (adE t kd a b rr) nm E := by
  obtain ⟨r1, r2, r3, r4⟩ := r
  refine ⟨r1, r2, r3, fun e he => ?_⟩
  have he' : e < NT.E t + 1 := he
  show h.1 79 (14 + e) = nI (fupd (NT.fi t) (NT.E t) a e) ∧ h.1 80 (14 + e) = nI (fupd (NT.se t) (NT.E t) b e) ∧ h.1 81 (14 + e) = fupd (NT.kd t) (NT.E t) kd e ∧ h.1 82 (14 + e) = (if fupd (NT.kd t) (NT.E t) kd e = 2 then -2 else fupd (NT.rs t) (NT.E t) rr e) ∧ h.1 84 (14 + e) = nI (fupd (NT.lc t) (NT.E t) 0 e) ∧ ∀ k, k < fupd (NT.lc t) (NT.E t) 0 e → h.1 83 (6 * (14 + e) + k) = NT.lf t e k
  by_cases q : e = NT.E t
  · rw [q, fupd_s, fupd_s, fupd_s, fupd_s, fupd_s]
    exact ⟨x1, x2, x3, x4, x5, fun k hk => by omega⟩
  · rw [fupd_n q, fupd_n q, fupd_n q, fupd_n q, fupd_n q]; exact r4 e (by omega)
theorem RdG.addL {h : PH} {t : NT} {nm : NMS} {E e0 : Nat} (r : RdG h t nm E) (hE : NT.E t = e0 + 1) (hl : ∀ e, e < NT.E t → NT.lc t e ≤ 6) (v : Int32) : RdG (pI (pI h 83 (6 * (14 + e0) + NT.lc t e0) v) 84 (14 + e0) (nI (NT.lc t e0 + 1))) (adL t v) nm E := by
  obtain ⟨r1, r2, r3, r4⟩ := r
  have g : ∀ y, y ≠ 83 → y ≠ 84 → (pI (pI h 83 (6 * (14 + e0) + NT.lc t e0) v) 84 (14 + e0) (nI (NT.lc t e0 + 1))).1 y = h.1 y := fun y a b => funext fun j => (pI_ne y j (Or.inl b)).trans (pI_ne y j (Or.inl a))
  have e1 : NT.E t - 1 = e0 := by omega
  refine ⟨by rw [g 74 (by decide) (by decide)]; exact r1, by rw [g 74 (by decide) (by decide)]; exact r2, fun j hj => by rw [g 76 (by decide) (by decide), g 77 (by decide) (by decide), g 78 (by decide) (by decide)]; exact r3 j hj, fun e he => ?_⟩
  obtain ⟨a1, a2, a3, a4, a5, a6⟩ := r4 e he
  rw [g 79 (by decide) (by decide), g 80 (by decide) (by decide), g 81 (by decide) (by decide), g 82 (by decide) (by decide)]
  refine ⟨a1, a2, a3, a4, ?_, ?_⟩
  · show (pI (pI h 83 (6 * (14 + e0) + NT.lc t e0) v) 84 (14 + e0) (nI (NT.lc t e0 + 1))).1 84 (14 + e) = nI (fupd (NT.lc t) (NT.E t - 1) (NT.lc t (NT.E t - 1) + 1) e)
    rw [e1]
    by_cases q : e = e0
    · rw [q, fupd_s]; exact pI_eq
    · rw [fupd_n q, pI_ne 84 _ (Or.inr (by omega)), pI_ne 84 _ (Or.inl (by decide))]; exact a5
  · show ∀ k, k < fupd (NT.lc t) (NT.E t - 1) (NT.lc t (NT.E t - 1) + 1) e → (pI (pI h 83 (6 * (14 + e0) + NT.lc t e0) v) 84 (14 + e0) (nI (NT.lc t e0 + 1))).1 83 (6 * (14 + e) + k) = fupd (NT.lf t) (NT.E t - 1) (fupd (NT.lf t (NT.E t - 1)) (NT.lc t (NT.E t - 1)) v) e k
    rw [e1]
    intro k hk
    rw [pI_ne 83 _ (Or.inl (by decide))]
    by_cases q : e = e0
    · rw [q, fupd_s] at hk ⊢
      by_cases z : k = NT.lc t e0
      · rw [z, fupd_s]; exact pI_eq
      · rw [fupd_n z, pI_ne 83 _ (Or.inr (by omega))]
        rw [q] at a6
        exact a6 k (by omega)
    · rw [fupd_n q] at hk ⊢
      have he2 : e < NT.E t := he
      have := hl e he2
      have := hl e0 (by omega)
      rw [pI_ne 83 _ (Or.inr (by omega))]; exact a6 k hk
def RMg (h : PH) (n : Nat) (B : Nat → Nat) (k : TK) (t : NT) (nm : NMS) (E : Nat) : Prop := MB h n B ∧ MK h B k ∧ RdG h t nm E
/-- reading an edge: what is had, with the edge at hand not counted yet -/
def MOg (h0 h' : PH) (n : Nat) (B : Nat → Nat) (E : Nat) (r : RS) : Prop := (r.1 = 0 → RMg h' n B r.2.1 r.2.2.1 r.2.2.2 E) ∧ (r.1 ≠ 0 → h'.1 74 23 = r.1 ∧ h'.1 74 24 = nI r.2.1.2.1) ∧ FR h0 h'
theorem mk_arr {h : PH} {B : Nat → Nat} {n : Nat} {k : TK} (mb : MB h n B) (mk : MK h B k) {y i : Nat} {x : Int32} (hy : 76 ≤ y) : MB (pI h y i x) n B ∧ MK (pI h y i x) B k := by
  have g74 : (pI h y i x).1 74 = h.1 74 := funext fun j => pI_ne 74 j (Or.inl (by omega))
  have g75 : (pI h y i x).1 75 = h.1 75 := funext fun j => pI_ne 75 j (Or.inl (by omega))
  refine ⟨?_, ?_⟩
  · unfold MB; rw [g74, g75]; exact mb
  · unfold MK; rw [g74]; exact mk
set_option maxRecDepth 100000 in
set_option maxHeartbeats 4000000 in
theorem lifts_loop {n : Nat} {B : Nat → Nat} (ok : OKB n B) {nm : NMS} (h0 : PH) {e0 : Nat} (he0 : e0 < 14) : ∀ (m : Nat) (k : TK) (hi : Int32) (t : NT) (h : PH), NT.lc t e0 + m = 6 → RMg h n B k t nm e0 → TGd n B k → TI t → NT.E t = e0 + 1 → (hi = if NT.lc t e0 = 0 then 300 else NT.lf t e0 (NT.lc t e0 - 1)) → hi.toInt ≤ 300 → FR h0 h → RT mX8_readLifts 4 14 [some (.ref 74), some (.int (nI (14 + e0))), some (.int (nI (6 * (14 + e0)))), some (.int 1), none] [] h (fun a h' => a = some (.int (b2i ((spLift B n nm m k hi t).1 = 0))) ∧ MOg h0 h' n B e0 (spLift B n nm m k hi t)) := by
  intro m
  induction m with
  | zero =>
    intro k hi t h hc c g ti hE hh hhi fr
    obtain ⟨mb, mk, rd⟩ := c
    obtain ⟨-, -, -, -, x5, x6⟩ := rd.2.2.2 e0 (by omega)
    have k4 := g.1.2.2.2
    have m1 := mk.1
    have lf5 : h.1 83 (6 * (14 + e0) + 6 - 1) = hi := by
      rw [hh, if_neg (by omega), show 6 * (14 + e0) + 6 - 1 = 6 * (14 + e0) + (NT.lc t e0 - 1) by omega]; exact x6 _ (by omega)
    by_cases h2 : k.1 = 2
    · have mw := mk.2.2.2 h2
      by_cases hb : (0 : Int32) ≤ wv B k ∧ wv B k ≤ hi
      · have hv : wF B k 0 hi = 0 := by unfold wF; rw [if_pos h2, if_pos hb]
        have e : spLift B n nm 0 k hi t = (4, k, t, nm) := by unfold spLift; rw [if_pos hv]
        rw [e]
        refine r_iload_3 dX8_readLifts_14 ?_
        refine r_if_eq 168 dX8_readLifts_15 (by decide) (fun c_15 => by exact absurd c_15 (by decide)) (fun c_15 => ?_)
        refine r_aload_0 dX8_readLifts_18 ?_
        refine r_getI dX8_readLifts_19 fl_X8_124 rfl ?_
        rw [m1]
        refine r_iconst (v := 3) dX8_readLifts_22 (by decide) ?_
        refine r_icmp_ne 71 dX8_readLifts_23 (by decide) (fun c_23 => by exact absurd ((tkM_2 k4).mpr h2) c_23) (fun c_23 => ?_)
        refine r_aload_0 dX8_readLifts_26 ?_
        refine r_getR (a := 84) dX8_readLifts_27 fl_X8_43 rfl rfl ?_
        refine r_iload_1 dX8_readLifts_30 ?_
        refine r_ialdN dX8_readLifts_31 rfl (by omega) ?_
        rw [x5]
        refine r_bipush (v := nI 6) dX8_readLifts_32 (by decide) ?_
        refine r_icmpN_ne 71 dX8_readLifts_34 (by decide) (by omega) (by omega) (fun c_34 => by omega) (fun c_34 => ?_)
        refine r_aload_0 dX8_readLifts_37 ?_
        refine r_aload_0 dX8_readLifts_38 ?_
        refine r_getI dX8_readLifts_39 fl_X8_139 rfl ?_
        rw [mw]
        refine r_i2l dX8_readLifts_42 ?_
        refine r_lconst (v := 0) dX8_readLifts_43 (by decide) ?_
        refine r_aload_0 dX8_readLifts_44 ?_
        refine r_getR (a := 83) dX8_readLifts_45 fl_X8_40 rfl rfl ?_
        refine r_iload_2 dX8_readLifts_48 ?_
        refine r_bipush (v := nI 6) dX8_readLifts_49 (by decide) ?_
        refine r_iadd dX8_readLifts_51 ?_
        rw [nI_ad9]
        refine r_iconst (v := nI 1) dX8_readLifts_52 (by decide) ?_
        refine r_isub dX8_readLifts_53 ?_
        rw [nI_sb (by omega)]
        refine r_ialdN dX8_readLifts_54 rfl (by omega) ?_
        rw [lf5]
        refine r_i2l dX8_readLifts_55 ?_
        refine r_cS3 mX8_in dX8_readLifts_56 ml_X8_131 mo_X8_in (q_in _ _ _ _) (by decide) ?_
        rw [b2i_c (show ((0 : Int64) ≤ (wv B k).toInt64 ∧ (wv B k).toInt64 ≤ hi.toInt64) ↔ _ from in_32 (lo := 0)), b2i_t hb]
        refine r_if_eq 66 dX8_readLifts_59 (by decide) (fun c_59 => by exact absurd c_59 (by decide)) (fun c_59 => ?_)
        refine r_iconst (v := 4) dX8_readLifts_62 (by decide) ?_
        refine r_goto 67 dX8_readLifts_63 (by decide) ?_
        refine r_cV1 mX8_errs dX8_readLifts_67 ml_X8_181 mo_X8_errs rfl (q_errs mk 4) (by decide) ?_
        refine r_zret dX8_readLifts_70 rfl rfl ?_
        exact ⟨(by first | rfl | exact congrArg (fun x => some (Value.int x)) (b2i_f (show ¬ ((4 : Int32) = 0) by decide)).symm), fun q => absurd q (show ¬ ((4 : Int32) = 0) by decide), fun _ => erH_b, erH_f fr⟩
      · have hv : wF B k 0 hi = 2 := by unfold wF; rw [if_pos h2, if_neg hb]
        have e : spLift B n nm 0 k hi t = (2, k, t, nm) := by unfold spLift; rw [hv, if_neg (by decide)]
        rw [e]
        refine r_iload_3 dX8_readLifts_14 ?_
        refine r_if_eq 168 dX8_readLifts_15 (by decide) (fun c_15 => by exact absurd c_15 (by decide)) (fun c_15 => ?_)
        refine r_aload_0 dX8_readLifts_18 ?_
        refine r_getI dX8_readLifts_19 fl_X8_124 rfl ?_
        rw [m1]
        refine r_iconst (v := 3) dX8_readLifts_22 (by decide) ?_
        refine r_icmp_ne 71 dX8_readLifts_23 (by decide) (fun c_23 => by exact absurd ((tkM_2 k4).mpr h2) c_23) (fun c_23 => ?_)
        refine r_aload_0 dX8_readLifts_26 ?_
        refine r_getR (a := 84) dX8_readLifts_27 fl_X8_43 rfl rfl ?_
        refine r_iload_1 dX8_readLifts_30 ?_
        refine r_ialdN dX8_readLifts_31 rfl (by omega) ?_
        rw [x5]
        refine r_bipush (v := nI 6) dX8_readLifts_32 (by decide) ?_
        refine r_icmpN_ne 71 dX8_readLifts_34 (by decide) (by omega) (by omega) (fun c_34 => by omega) (fun c_34 => ?_)
        refine r_aload_0 dX8_readLifts_37 ?_
        refine r_aload_0 dX8_readLifts_38 ?_
        refine r_getI dX8_readLifts_39 fl_X8_139 rfl ?_
        rw [mw]
        refine r_i2l dX8_readLifts_42 ?_
        refine r_lconst (v := 0) dX8_readLifts_43 (by decide) ?_
        refine r_aload_0 dX8_readLifts_44 ?_
        refine r_getR (a := 83) dX8_readLifts_45 fl_X8_40 rfl rfl ?_
        refine r_iload_2 dX8_readLifts_48 ?_
        refine r_bipush (v := nI 6) dX8_readLifts_49 (by decide) ?_
        refine r_iadd dX8_readLifts_51 ?_
        rw [nI_ad9]
        refine r_iconst (v := nI 1) dX8_readLifts_52 (by decide) ?_
        refine r_isub dX8_readLifts_53 ?_
        rw [nI_sb (by omega)]
        refine r_ialdN dX8_readLifts_54 rfl (by omega) ?_
        rw [lf5]
        refine r_i2l dX8_readLifts_55 ?_
        refine r_cS3 mX8_in dX8_readLifts_56 ml_X8_131 mo_X8_in (q_in _ _ _ _) (by decide) ?_
        rw [b2i_c (show ((0 : Int64) ≤ (wv B k).toInt64 ∧ (wv B k).toInt64 ≤ hi.toInt64) ↔ _ from in_32 (lo := 0)), b2i_f hb]
        refine r_if_eq 66 dX8_readLifts_59 (by decide) (fun c_59 => ?_) (fun c_59 => by exact absurd rfl c_59)
        refine r_iconst (v := 2) dX8_readLifts_66 (by decide) ?_
        refine r_cV1 mX8_errs dX8_readLifts_67 ml_X8_181 mo_X8_errs rfl (q_errs mk 2) (by decide) ?_
        refine r_zret dX8_readLifts_70 rfl rfl ?_
        exact ⟨(by first | rfl | exact congrArg (fun x => some (Value.int x)) (b2i_f (show ¬ ((2 : Int32) = 0) by decide)).symm), fun q => absurd q (show ¬ ((2 : Int32) = 0) by decide), fun _ => erH_b, erH_f fr⟩
    · have hv : wF B k 0 hi = 1 := by unfold wF; rw [if_neg h2]
      have e : spLift B n nm 0 k hi t = (1, k, t, nm) := by unfold spLift; rw [hv, if_neg (by decide)]
      rw [e]
      have hv' : wF B k 0 hi ≠ 0 := by rw [hv]; decide
      refine r_iload_3 dX8_readLifts_14 ?_
      refine r_if_eq 168 dX8_readLifts_15 (by decide) (fun c_15 => by exact absurd c_15 (by decide)) (fun c_15 => ?_)
      refine r_aload_0 dX8_readLifts_18 ?_
      refine r_getI dX8_readLifts_19 fl_X8_124 rfl ?_
      rw [m1]
      refine r_iconst (v := 3) dX8_readLifts_22 (by decide) ?_
      refine r_icmp_ne 71 dX8_readLifts_23 (by decide) (fun c_23 => ?_) (fun c_23 => by exact absurd ((tkM_2 k4).mp c_23) h2)
      refine r_aload_0 dX8_readLifts_71 ?_
      refine r_getR (a := 84) dX8_readLifts_72 fl_X8_43 rfl rfl ?_
      refine r_iload_1 dX8_readLifts_75 ?_
      refine r_ialdN dX8_readLifts_76 rfl (by omega) ?_
      rw [x5]
      refine r_if_ne 86 dX8_readLifts_77 (by decide) (fun c_77 => ?_) (fun c_77 => by exact absurd (nI_jn (b := 0) (by omega) (by omega) c_77) (by omega))
      refine r_aload_0 dX8_readLifts_86 ?_
      refine r_getR (a := 83) dX8_readLifts_87 fl_X8_40 rfl rfl ?_
      refine r_iload_2 dX8_readLifts_90 ?_
      refine r_aload_0 dX8_readLifts_91 ?_
      refine r_getR (a := 84) dX8_readLifts_92 fl_X8_43 rfl rfl ?_
      refine r_iload_1 dX8_readLifts_95 ?_
      refine r_ialdN dX8_readLifts_96 rfl (by omega) ?_
      rw [x5]
      refine r_iadd dX8_readLifts_97 ?_
      rw [nI_ad9]
      refine r_iconst (v := nI 1) dX8_readLifts_98 (by decide) ?_
      refine r_isub dX8_readLifts_99 ?_
      rw [nI_sb (by omega)]
      refine r_ialdN dX8_readLifts_100 rfl (by omega) ?_
      rw [show 6 * (14 + e0) + NT.lc t e0 - 1 = 6 * (14 + e0) + 6 - 1 by omega, lf5]
      refine r_istore_4 dX8_readLifts_101 ?_
      refine r_aload_0 dX8_readLifts_103 ?_
      refine r_iconst (v := 0) dX8_readLifts_104 (by decide) ?_
      refine r_iload_4 dX8_readLifts_105 ?_
      refine r_cVQ2 mX8_takesWhole dX8_readLifts_107 ml_X8_201 mo_X8_takesWhole rfl (q_whole ok mb mk g 0 hi) (by decide) (fun h3 p3 => ?_)
      have e3 := p3.2 hv'
      rw [hv] at e3
      rw [b2i_f hv']
      refine r_if_ne 115 dX8_readLifts_110 (by decide) (fun c_110 => by exact absurd rfl c_110) (fun c_110 => ?_)
      refine r_iconst (v := 0) dX8_readLifts_113 (by decide) ?_
      refine r_zret dX8_readLifts_114 rfl rfl ?_
      rw [e3]
      exact ⟨(by first | rfl | exact congrArg (fun x => some (Value.int x)) (b2i_f (show ¬ ((1 : Int32) = 0) by decide)).symm), fun q => absurd q (show ¬ ((1 : Int32) = 0) by decide), fun _ => erH_b, erH_f fr⟩
  | succ m ih =>
    intro k hi t h hc c g ti hE hh hhi fr
    obtain ⟨mb, mk, rd⟩ := c
    obtain ⟨-, -, -, -, x5, x6⟩ := rd.2.2.2 e0 (by omega)
    have hl := fun e (he : e < NT.E t) => (ti.2.2.1 e he).2.2.2.2.2.1
    have k4 := g.1.2.2.2
    have m1 := mk.1
    have g1 := g.nx.1
    have e1 : NT.E t - 1 = e0 := by omega
    have t103 : RT mX8_readLifts 4 103 [some (.ref 74), some (.int (nI (14 + e0))), some (.int (nI (6 * (14 + e0)))), some (.int 1), some (.int hi)] [] h (fun a h' => a = some (.int (b2i ((spLift B n nm (m + 1) k hi t).1 = 0))) ∧ MOg h0 h' n B e0 (spLift B n nm (m + 1) k hi t)) := by
      by_cases hv : wF B k 0 hi = 0
      · have hv2 := wF_0 hv
        have b := wvb (a := 0) (b := hi.toInt) hv2.2 (by decide +kernel) rfl
        have tiL : TI (adL t (wv B k)) := ti.adL (by omega) (by rw [e1]; omega) ⟨b.1, by omega⟩
        by_cases c4 : (nx B n k).1 = 4
        · have e : spLift B n nm (m + 1) k hi t = spLift B n nm m (nx B n (nx B n k)) (wv B k) (adL t (wv B k)) := by show (if wF B k 0 hi = 0 then (if (nx B n k).1 = 4 then spLift B n nm m (nx B n (nx B n k)) (wv B k) (adL t (wv B k)) else (0, nx B n k, adL t (wv B k), nm)) else (wF B k 0 hi, k, t, nm)) = _; rw [if_pos hv, if_pos c4]
          rw [e]
          refine r_aload_0 dX8_readLifts_103 ?_
          refine r_iconst (v := 0) dX8_readLifts_104 (by decide) ?_
          refine r_iload_4 dX8_readLifts_105 ?_
          refine r_cVQ2 mX8_takesWhole dX8_readLifts_107 ml_X8_201 mo_X8_takesWhole rfl (q_whole ok mb mk g 0 hi) (by decide) (fun h3 p3 => ?_)
          have p3 := p3.1 hv
          have rd3 := rd.fm p3.2.2.2 (by unfold twF tkF; omega) (by unfold twF tkF; omega)
          have f3 := fr_fm p3.2.2.2 (fun k q => twF_r q)
          have y5 : h3.1 84 (14 + e0) = nI (NT.lc t e0) := (rd3.2.2.2 e0 (by omega)).2.2.2.2.1
          have rdL := rd3.addL hE hl (wv B k)
          have ma := mk_arr p3.1 p3.2.1 (y := 83) (i := 6 * (14 + e0) + NT.lc t e0) (x := wv B k) (by decide)
          have mc := mk_arr ma.1 ma.2 (y := 84) (i := 14 + e0) (x := nI (NT.lc t e0 + 1)) (by decide)
          have f4 : FR h0 (pI (pI h3 83 (6 * (14 + e0) + NT.lc t e0) (wv B k)) 84 (14 + e0) (nI (NT.lc t e0 + 1))) := fr_pA (fr_pA (fr.tr f3) (by decide) (by decide) (by show 84 ≤ _; omega)) (by decide) (by decide) (by show 14 ≤ _; omega)
          rw [b2i_t hv]
          refine r_if_ne 115 dX8_readLifts_110 (by decide) (fun c_110 => ?_) (fun c_110 => by exact absurd c_110 (by decide))
          refine r_aload_0 dX8_readLifts_115 ?_
          refine r_getR (a := 83) dX8_readLifts_116 fl_X8_40 rfl rfl ?_
          refine r_iload_2 dX8_readLifts_119 ?_
          refine r_aload_0 dX8_readLifts_120 ?_
          refine r_getR (a := 84) dX8_readLifts_121 fl_X8_43 rfl rfl ?_
          refine r_iload_1 dX8_readLifts_124 ?_
          refine r_ialdN dX8_readLifts_125 rfl (by omega) ?_
          rw [y5]
          refine r_iadd dX8_readLifts_126 ?_
          rw [nI_ad9]
          refine r_aload_0 dX8_readLifts_127 ?_
          refine r_getI dX8_readLifts_128 fl_X8_185 rfl ?_
          rw [p3.2.2.1]
          refine r_iastN dX8_readLifts_131 rfl (by omega) ?_
          refine r_aload_0 dX8_readLifts_132 ?_
          refine r_getR (a := 84) dX8_readLifts_133 fl_X8_43 rfl rfl ?_
          refine r_iload_1 dX8_readLifts_136 ?_
          refine r_dup2ir dX8_readLifts_137 ?_
          refine r_ialdN dX8_readLifts_138 rfl (by omega) ?_
          rw [show (pI h3 83 (6 * (14 + e0) + NT.lc t e0) (wv B k)).1 84 (14 + e0) = nI (NT.lc t e0) from (pI_ne 84 _ (Or.inl (by decide))).trans y5]
          refine r_iconst (v := nI 1) dX8_readLifts_139 (by decide) ?_
          refine r_iadd dX8_readLifts_140 ?_
          rw [nI_ad9]
          refine r_iastN dX8_readLifts_141 rfl (by omega) ?_
          refine r_aload_0 dX8_readLifts_142 ?_
          refine r_getI dX8_readLifts_143 fl_X8_124 rfl ?_
          rw [mc.2.1]
          refine r_bipush (v := 44) dX8_readLifts_146 (by decide) ?_
          refine r_icmp_ne 155 dX8_readLifts_148 (by decide) (fun c_148 => by exact absurd ((tkM_c g1.1.2.2.2).1.mpr c4) c_148) (fun c_148 => ?_)
          refine r_iconst (v := 1) dX8_readLifts_151 (by decide) ?_
          refine r_goto 156 dX8_readLifts_152 (by decide) ?_
          refine r_istore_3 dX8_readLifts_156 ?_
          refine r_iload_3 dX8_readLifts_157 ?_
          refine r_if_eq 165 dX8_readLifts_158 (by decide) (fun c_158 => by exact absurd c_158 (by decide)) (fun c_158 => ?_)
          refine r_aload_0 dX8_readLifts_161 ?_
          refine r_cWQ0 mX8_goesOn dX8_readLifts_162 ml_X8_188 mo_X8_goesOn rfl (q_goesOn ok mc.1 g1.1.2.1 mc.2.2.2.1) (by decide) (fun h5 p5 => ?_)
          refine r_goto 14 dX8_readLifts_165 (by decide) ?_
          refine RT.sub (lv' := [some (.ref 74), some (.int (nI (14 + e0))), some (.int (nI (6 * (14 + e0)))), some (.int 1), none]) (by simp [lsub]) ?_
          have eL : NT.lc (adL t (wv B k)) e0 = NT.lc t e0 + 1 := by show fupd (NT.lc t) (NT.E t - 1) (NT.lc t (NT.E t - 1) + 1) e0 = _; rw [e1, fupd_s]
          refine ih _ _ _ h5 (by rw [eL]; omega) ⟨mc.1.fm p5.2 (by unfold tkF; omega), p5.1, rdL.fm p5.2 (by unfold tkF; omega) (by unfold tkF; omega)⟩ g1.nx.1 tiL hE ?_ (by omega) (f4.tr (fr_fm p5.2 (fun k q => tkF_r q)))
          rw [eL, if_neg (by omega), Nat.add_sub_cancel]
          show _ = fupd (NT.lf t) (NT.E t - 1) (fupd (NT.lf t (NT.E t - 1)) (NT.lc t (NT.E t - 1)) (wv B k)) e0 (NT.lc t e0)
          rw [e1, fupd_s, fupd_s]
        · have e : spLift B n nm (m + 1) k hi t = (0, nx B n k, adL t (wv B k), nm) := by show (if wF B k 0 hi = 0 then (if (nx B n k).1 = 4 then spLift B n nm m (nx B n (nx B n k)) (wv B k) (adL t (wv B k)) else (0, nx B n k, adL t (wv B k), nm)) else (wF B k 0 hi, k, t, nm)) = _; rw [if_pos hv, if_neg c4]
          rw [e]
          refine r_aload_0 dX8_readLifts_103 ?_
          refine r_iconst (v := 0) dX8_readLifts_104 (by decide) ?_
          refine r_iload_4 dX8_readLifts_105 ?_
          refine r_cVQ2 mX8_takesWhole dX8_readLifts_107 ml_X8_201 mo_X8_takesWhole rfl (q_whole ok mb mk g 0 hi) (by decide) (fun h3 p3 => ?_)
          have p3 := p3.1 hv
          have rd3 := rd.fm p3.2.2.2 (by unfold twF tkF; omega) (by unfold twF tkF; omega)
          have f3 := fr_fm p3.2.2.2 (fun k q => twF_r q)
          have y5 : h3.1 84 (14 + e0) = nI (NT.lc t e0) := (rd3.2.2.2 e0 (by omega)).2.2.2.2.1
          have rdL := rd3.addL hE hl (wv B k)
          have ma := mk_arr p3.1 p3.2.1 (y := 83) (i := 6 * (14 + e0) + NT.lc t e0) (x := wv B k) (by decide)
          have mc := mk_arr ma.1 ma.2 (y := 84) (i := 14 + e0) (x := nI (NT.lc t e0 + 1)) (by decide)
          have f4 : FR h0 (pI (pI h3 83 (6 * (14 + e0) + NT.lc t e0) (wv B k)) 84 (14 + e0) (nI (NT.lc t e0 + 1))) := fr_pA (fr_pA (fr.tr f3) (by decide) (by decide) (by show 84 ≤ _; omega)) (by decide) (by decide) (by show 14 ≤ _; omega)
          rw [b2i_t hv]
          refine r_if_ne 115 dX8_readLifts_110 (by decide) (fun c_110 => ?_) (fun c_110 => by exact absurd c_110 (by decide))
          refine r_aload_0 dX8_readLifts_115 ?_
          refine r_getR (a := 83) dX8_readLifts_116 fl_X8_40 rfl rfl ?_
          refine r_iload_2 dX8_readLifts_119 ?_
          refine r_aload_0 dX8_readLifts_120 ?_
          refine r_getR (a := 84) dX8_readLifts_121 fl_X8_43 rfl rfl ?_
          refine r_iload_1 dX8_readLifts_124 ?_
          refine r_ialdN dX8_readLifts_125 rfl (by omega) ?_
          rw [y5]
          refine r_iadd dX8_readLifts_126 ?_
          rw [nI_ad9]
          refine r_aload_0 dX8_readLifts_127 ?_
          refine r_getI dX8_readLifts_128 fl_X8_185 rfl ?_
          rw [p3.2.2.1]
          refine r_iastN dX8_readLifts_131 rfl (by omega) ?_
          refine r_aload_0 dX8_readLifts_132 ?_
          refine r_getR (a := 84) dX8_readLifts_133 fl_X8_43 rfl rfl ?_
          refine r_iload_1 dX8_readLifts_136 ?_
          refine r_dup2ir dX8_readLifts_137 ?_
          refine r_ialdN dX8_readLifts_138 rfl (by omega) ?_
          rw [show (pI h3 83 (6 * (14 + e0) + NT.lc t e0) (wv B k)).1 84 (14 + e0) = nI (NT.lc t e0) from (pI_ne 84 _ (Or.inl (by decide))).trans y5]
          refine r_iconst (v := nI 1) dX8_readLifts_139 (by decide) ?_
          refine r_iadd dX8_readLifts_140 ?_
          rw [nI_ad9]
          refine r_iastN dX8_readLifts_141 rfl (by omega) ?_
          refine r_aload_0 dX8_readLifts_142 ?_
          refine r_getI dX8_readLifts_143 fl_X8_124 rfl ?_
          rw [mc.2.1]
          refine r_bipush (v := 44) dX8_readLifts_146 (by decide) ?_
          refine r_icmp_ne 155 dX8_readLifts_148 (by decide) (fun c_148 => ?_) (fun c_148 => by exact absurd ((tkM_c g1.1.2.2.2).1.mp c_148) c4)
          refine r_iconst (v := 0) dX8_readLifts_155 (by decide) ?_
          refine r_istore_3 dX8_readLifts_156 ?_
          refine r_iload_3 dX8_readLifts_157 ?_
          refine r_if_eq 165 dX8_readLifts_158 (by decide) (fun c_158 => ?_) (fun c_158 => by exact absurd rfl c_158)
          refine r_goto 14 dX8_readLifts_165 (by decide) ?_
          refine r_iload_3 dX8_readLifts_14 ?_
          refine r_if_eq 168 dX8_readLifts_15 (by decide) (fun c_15 => ?_) (fun c_15 => by exact absurd rfl c_15)
          refine r_iconst (v := 1) dX8_readLifts_168 (by decide) ?_
          refine r_zret dX8_readLifts_169 rfl rfl ?_
          exact ⟨(by first | rfl | exact congrArg (fun x => some (Value.int x)) (b2i_t rfl).symm), fun _ => ⟨mc.1, mc.2, rdL⟩, fun q => absurd rfl q, f4⟩
      · have e : spLift B n nm (m + 1) k hi t = (wF B k 0 hi, k, t, nm) := by show (if wF B k 0 hi = 0 then (if (nx B n k).1 = 4 then spLift B n nm m (nx B n (nx B n k)) (wv B k) (adL t (wv B k)) else (0, nx B n k, adL t (wv B k), nm)) else (wF B k 0 hi, k, t, nm)) = _; rw [if_neg hv]
        rw [e]
        refine r_aload_0 dX8_readLifts_103 ?_
        refine r_iconst (v := 0) dX8_readLifts_104 (by decide) ?_
        refine r_iload_4 dX8_readLifts_105 ?_
        refine r_cVQ2 mX8_takesWhole dX8_readLifts_107 ml_X8_201 mo_X8_takesWhole rfl (q_whole ok mb mk g 0 hi) (by decide) (fun h3 p3 => ?_)
        have e3 := p3.2 hv
        rw [b2i_f hv]
        refine r_if_ne 115 dX8_readLifts_110 (by decide) (fun c_110 => by exact absurd rfl c_110) (fun c_110 => ?_)
        refine r_iconst (v := 0) dX8_readLifts_113 (by decide) ?_
        refine r_zret dX8_readLifts_114 rfl rfl ?_
        rw [e3]
        exact ⟨(by first | rfl | exact congrArg (fun x => some (Value.int x)) (b2i_f hv).symm), fun q => absurd q hv, fun _ => erH_b, erH_f fr⟩
    have t71 : RT mX8_readLifts 4 71 [some (.ref 74), some (.int (nI (14 + e0))), some (.int (nI (6 * (14 + e0)))), some (.int 1), none] [] h (fun a h' => a = some (.int (b2i ((spLift B n nm (m + 1) k hi t).1 = 0))) ∧ MOg h0 h' n B e0 (spLift B n nm (m + 1) k hi t)) := by
      by_cases hc0 : NT.lc t e0 = 0
      · rw [if_pos hc0] at hh
        rw [← show (300 : Int32) = 300 from rfl] at hh
        refine r_aload_0 dX8_readLifts_71 ?_
        refine r_getR (a := 84) dX8_readLifts_72 fl_X8_43 rfl rfl ?_
        refine r_iload_1 dX8_readLifts_75 ?_
        refine r_ialdN dX8_readLifts_76 rfl (by omega) ?_
        rw [x5, hc0]
        refine r_if_ne 86 dX8_readLifts_77 (by decide) (fun c_77 => by exact absurd rfl c_77) (fun c_77 => ?_)
        refine r_sipush (v := 300) dX8_readLifts_80 (by decide) ?_
        rw [← hh]
        refine r_goto 101 dX8_readLifts_83 (by decide) ?_
        refine r_istore_4 dX8_readLifts_101 ?_
        exact t103
      · rw [if_neg hc0] at hh
        have lfp : h.1 83 (6 * (14 + e0) + NT.lc t e0 - 1) = hi := by rw [hh, show 6 * (14 + e0) + NT.lc t e0 - 1 = 6 * (14 + e0) + (NT.lc t e0 - 1) by omega]; exact x6 _ (by omega)
        refine r_aload_0 dX8_readLifts_71 ?_
        refine r_getR (a := 84) dX8_readLifts_72 fl_X8_43 rfl rfl ?_
        refine r_iload_1 dX8_readLifts_75 ?_
        refine r_ialdN dX8_readLifts_76 rfl (by omega) ?_
        rw [x5]
        refine r_if_ne 86 dX8_readLifts_77 (by decide) (fun c_77 => ?_) (fun c_77 => by exact absurd (nI_jn (b := 0) (by omega) (by omega) c_77) hc0)
        refine r_aload_0 dX8_readLifts_86 ?_
        refine r_getR (a := 83) dX8_readLifts_87 fl_X8_40 rfl rfl ?_
        refine r_iload_2 dX8_readLifts_90 ?_
        refine r_aload_0 dX8_readLifts_91 ?_
        refine r_getR (a := 84) dX8_readLifts_92 fl_X8_43 rfl rfl ?_
        refine r_iload_1 dX8_readLifts_95 ?_
        refine r_ialdN dX8_readLifts_96 rfl (by omega) ?_
        rw [x5]
        refine r_iadd dX8_readLifts_97 ?_
        rw [nI_ad9]
        refine r_iconst (v := nI 1) dX8_readLifts_98 (by decide) ?_
        refine r_isub dX8_readLifts_99 ?_
        rw [nI_sb (by omega)]
        refine r_ialdN dX8_readLifts_100 rfl (by omega) ?_
        rw [lfp]
        refine r_istore_4 dX8_readLifts_101 ?_
        exact t103
    by_cases h2 : k.1 = 2
    · skip
      refine r_iload_3 dX8_readLifts_14 ?_
      refine r_if_eq 168 dX8_readLifts_15 (by decide) (fun c_15 => by exact absurd c_15 (by decide)) (fun c_15 => ?_)
      refine r_aload_0 dX8_readLifts_18 ?_
      refine r_getI dX8_readLifts_19 fl_X8_124 rfl ?_
      rw [m1]
      refine r_iconst (v := 3) dX8_readLifts_22 (by decide) ?_
      refine r_icmp_ne 71 dX8_readLifts_23 (by decide) (fun c_23 => by exact absurd ((tkM_2 k4).mpr h2) c_23) (fun c_23 => ?_)
      refine r_aload_0 dX8_readLifts_26 ?_
      refine r_getR (a := 84) dX8_readLifts_27 fl_X8_43 rfl rfl ?_
      refine r_iload_1 dX8_readLifts_30 ?_
      refine r_ialdN dX8_readLifts_31 rfl (by omega) ?_
      rw [x5]
      refine r_bipush (v := nI 6) dX8_readLifts_32 (by decide) ?_
      refine r_icmpN_ne 71 dX8_readLifts_34 (by decide) (by omega) (by omega) (fun c_34 => ?_) (fun c_34 => by omega)
      exact t71
    · skip
      refine r_iload_3 dX8_readLifts_14 ?_
      refine r_if_eq 168 dX8_readLifts_15 (by decide) (fun c_15 => by exact absurd c_15 (by decide)) (fun c_15 => ?_)
      refine r_aload_0 dX8_readLifts_18 ?_
      refine r_getI dX8_readLifts_19 fl_X8_124 rfl ?_
      rw [m1]
      refine r_iconst (v := 3) dX8_readLifts_22 (by decide) ?_
      refine r_icmp_ne 71 dX8_readLifts_23 (by decide) (fun c_23 => ?_) (fun c_23 => by exact absurd ((tkM_2 k4).mp c_23) h2)
      exact t71
set_option maxRecDepth 100000 in
set_option maxHeartbeats 4000000 in
theorem q_lifts {n : Nat} {B : Nat → Nat} (ok : OKB n B) {nm : NMS} {e0 : Nat} (he0 : e0 < 14) {k : TK} {t : NT} {h : PH} (c : RMg h n B k t nm e0) (g : TGd n B k) (ti : TI t) (hE : NT.E t = e0 + 1) (hl0 : NT.lc t e0 = 0) : Con mX8_readLifts 4 [.ref 74, .int (nI (14 + e0))] h (fun a h' => a = some (.int (b2i ((spLift B n nm 6 k 300 t).1 = 0))) ∧ MOg h h' n B e0 (spLift B n nm 6 k 300 t)) := by
  obtain ⟨mb, mk, rd⟩ := c
  have x5 := (rd.2.2.2 e0 (by omega)).2.2.2.2.1
  rw [hl0] at x5
  have rd' : RdG (pI h 84 (14 + e0) 0) t nm e0 := by
    have ex : pI h 84 (14 + e0) 0 = h := by
      unfold pI
      refine Prod.ext (funext fun a => funext fun b => ?_) rfl
      by_cases q : a = 84 ∧ b = 14 + e0
      · simp only [q, and_self, if_true]; exact x5.symm
      · simp only [q, if_false]
    rw [ex]; exact rd
  have ma := mk_arr mb mk (y := 84) (i := 14 + e0) (x := 0) (by decide)
  refine Con.mk (by decide) ?_
  show RT _ _ 0 [some (.ref 74), some (.int (nI (14 + e0))), none, none, none] [] _ _
  refine r_bipush (v := nI 6) dX8_readLifts_0 (by decide) ?_
  refine r_iload_1 dX8_readLifts_2 ?_
  refine r_imul dX8_readLifts_3 ?_
  rw [nI_mu9]
  refine r_istore_2 dX8_readLifts_4 ?_
  refine r_aload_0 dX8_readLifts_5 ?_
  refine r_getR (a := 84) dX8_readLifts_6 fl_X8_43 rfl rfl ?_
  refine r_iload_1 dX8_readLifts_9 ?_
  refine r_iconst (v := 0) dX8_readLifts_10 (by decide) ?_
  refine r_iastN dX8_readLifts_11 rfl (by omega) ?_
  refine r_iconst (v := 1) dX8_readLifts_12 (by decide) ?_
  refine r_istore_3 dX8_readLifts_13 ?_
  exact lifts_loop ok h he0 6 k 300 t _ (by omega) ⟨ma.1, ma.2, rd'⟩ g ti hE (by rw [if_pos hl0]) (by decide +kernel) (fr_pA FR.rf (by decide) (by decide) (by show 14 ≤ _; omega))

