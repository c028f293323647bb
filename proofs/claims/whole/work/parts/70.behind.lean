/-! ===== both: behind ===== -/
set_option maxRecDepth 100000 in
set_option maxHeartbeats 4000000 in
theorem mbh_in {t : NT} (ok : okT t) {op : Nat → Bool} {s : TS} (tw : TW (NT.E t) (NT.fi t) (NT.se t) op s) {h : PH} (nc : NetM h t) (tc : TreeM h s) {j : Nat} (hj : j < 9) {k : Nat} (acc : Int32) {Q : Option Value → PH → Prop} : ∀ (n v : Nat), s.2.2.2 v = true → dpj (NT.fi t) (NT.se t) s v = n → RT mX8_behind 3 78 [some (.ref 74), some (.int (nI j)), some (.int acc), some (.int (nI k)), some (.int (nI (abv (NT.fi t) (NT.se t) s j n v))), none] [] h Q → RT mX8_behind 3 40 [some (.ref 74), some (.int (nI j)), some (.int acc), some (.int (nI k)), some (.int 0), some (.int (nI v))] [] h Q := by
  intro n
  induction n with
  | zero =>
    intro v hv hd K
    have h0 := tw.dp_z ok.ends ok.2.2.1 hv hd
    subst h0
    refine r_iload_5 dX8_behind_40 ?_
    refine r_if_eq 78 dX8_behind_42 (by decide) (fun c_42 => ?_) (fun c_42 => by exact absurd rfl c_42)
    refine RT.sub (lv' := [some (.ref 74), some (.int (nI j)), some (.int acc), some (.int (nI k)), some (.int 0), none]) (by simp [lsub]) ?_
    exact K
  | succ n ih =>
    intro v hv hd K
    have v9 := tw.lt9 hv
    have h0 : v ≠ 0 := fun q => by rw [q, TW.dp0] at hd; omega
    have um := tw.upm ok.ends ok.2.2.1 hv h0
    have u9 := tw.lt9 um.1
    have ab := q_above ok nc tw tc hv h0
    have e1 : abv (NT.fi t) (NT.se t) s j (n + 1) v = (if upj (NT.fi t) (NT.se t) s v = j then 1 else 0) + abv (NT.fi t) (NT.se t) s j n (upj (NT.fi t) (NT.se t) s v) := rfl
    rw [e1] at K
    by_cases q : upj (NT.fi t) (NT.se t) s v = j
    · rw [if_pos q, abv_0 tw ok.ends ok.2.2.1 j n _ um.1 (by omega) (by rw [← q]; omega)] at K
      have out : RT mX8_behind 3 40 [some (.ref 74), some (.int (nI j)), some (.int acc), some (.int (nI k)), some (.int 1), some (.int (nI (upj (NT.fi t) (NT.se t) s v)))] [] h Q := by
        refine r_iload_5 dX8_behind_40 ?_
        refine r_if_eq 78 dX8_behind_42 (by decide) (fun c_42 => ?_) (fun c_42 => ?_)
        · refine RT.sub (lv' := [some (.ref 74), some (.int (nI j)), some (.int acc), some (.int (nI k)), some (.int 1), none]) (by simp [lsub]) ?_
          exact K
        · refine r_iload_4 dX8_behind_45 ?_
          refine r_if_ne 78 dX8_behind_47 (by decide) (fun c_47 => ?_) (fun c_47 => by exact absurd c_47 (by decide))
          refine RT.sub (lv' := [some (.ref 74), some (.int (nI j)), some (.int acc), some (.int (nI k)), some (.int 1), none]) (by simp [lsub]) ?_
          exact K
      refine r_iload_5 dX8_behind_40 ?_
      refine r_if_eq 78 dX8_behind_42 (by decide) (fun c_42 => by exact absurd c_42 (nI_nz (by omega) h0)) (fun c_42 => ?_)
      refine r_iload_4 dX8_behind_45 ?_
      refine r_if_ne 78 dX8_behind_47 (by decide) (fun c_47 => by exact absurd rfl c_47) (fun c_47 => ?_)
      refine r_aload_0 dX8_behind_50 ?_
      refine r_iload_5 dX8_behind_51 ?_
      refine r_cV1 mX8_above dX8_behind_53 ml_X8_285 mo_X8_above rfl ab (by decide) ?_
      refine r_iload_1 dX8_behind_56 ?_
      refine r_icmpN_ne 64 dX8_behind_57 (by decide) (by omega) (by omega) (fun c_57 => by exact absurd q c_57) (fun c_57 => ?_)
      refine r_iconst (v := 1) dX8_behind_60 (by decide) ?_
      refine r_goto 65 dX8_behind_61 (by decide) ?_
      refine r_istore_4 dX8_behind_65 ?_
      refine r_aload_0 dX8_behind_67 ?_
      refine r_iload_5 dX8_behind_68 ?_
      refine r_cV1 mX8_above dX8_behind_70 ml_X8_285 mo_X8_above rfl ab (by decide) ?_
      refine r_istore_5 dX8_behind_73 ?_
      refine r_goto 40 dX8_behind_75 (by decide) ?_
      exact out
    · rw [if_neg q, Nat.zero_add] at K
      refine r_iload_5 dX8_behind_40 ?_
      refine r_if_eq 78 dX8_behind_42 (by decide) (fun c_42 => by exact absurd c_42 (nI_nz (by omega) h0)) (fun c_42 => ?_)
      refine r_iload_4 dX8_behind_45 ?_
      refine r_if_ne 78 dX8_behind_47 (by decide) (fun c_47 => by exact absurd rfl c_47) (fun c_47 => ?_)
      refine r_aload_0 dX8_behind_50 ?_
      refine r_iload_5 dX8_behind_51 ?_
      refine r_cV1 mX8_above dX8_behind_53 ml_X8_285 mo_X8_above rfl ab (by decide) ?_
      refine r_iload_1 dX8_behind_56 ?_
      refine r_icmpN_ne 64 dX8_behind_57 (by decide) (by omega) (by omega) (fun c_57 => ?_) (fun c_57 => by exact absurd c_57 q)
      refine r_iconst (v := 0) dX8_behind_64 (by decide) ?_
      refine r_istore_4 dX8_behind_65 ?_
      refine r_aload_0 dX8_behind_67 ?_
      refine r_iload_5 dX8_behind_68 ?_
      refine r_cV1 mX8_above dX8_behind_70 ml_X8_285 mo_X8_above rfl ab (by decide) ?_
      refine r_istore_5 dX8_behind_73 ?_
      refine r_goto 40 dX8_behind_75 (by decide) ?_
      exact ih _ um.1 (by omega) K
set_option maxRecDepth 100000 in
set_option maxHeartbeats 4000000 in
theorem mbh_out {t : NT} (ok : okT t) {op : Nat → Bool} {s : TS} (tw : TW (NT.E t) (NT.fi t) (NT.se t) op s) {h : PH} (nc : NetM h t) (tc : TreeM h s) {j : Nat} (hj : j < 9) {Q : Option Value → PH → Prop} : ∀ (m i : Nat) (acc : Int32), i + m = s.1 → RT mX8_behind 3 97 [some (.ref 74), some (.int (nI j)), some (.int (accI (fun i => nI (abv (NT.fi t) (NT.se t) s j (dpj (NT.fi t) (NT.se t) s (s.2.1 i)) (s.2.1 i))) m i acc)), none, none, none] [] h Q → RT mX8_behind 3 21 [some (.ref 74), some (.int (nI j)), some (.int acc), some (.int (nI i)), none, none] [] h Q := by
  have h9 := tw.le
  intro m
  induction m with
  | zero =>
    intro i acc hi K
    refine r_iload_3 dX8_behind_21 ?_
    refine r_aload_0 dX8_behind_22 ?_
    refine r_getI dX8_behind_23 fl_X8_278 rfl ?_
    rw [tc.2.1]
    refine r_icmpN_ge 97 dX8_behind_26 (by decide) (by omega) (by omega) (fun c_26 => ?_) (fun c_26 => by omega)
    refine RT.sub (lv' := [some (.ref 74), some (.int (nI j)), some (.int acc), none, none, none]) (by simp [lsub]) ?_
    exact K
  | succ m ih =>
    intro i acc hi K
    have hi1 : i < s.1 := by omega
    have hv := (tw.1 i hi1).2
    have v9 := (tw.1 i hi1).1
    have a1 := (abv_1 tw ok.ends ok.2.2.1 j _ _ hv rfl).1
    have K' : RT mX8_behind 3 97 [some (.ref 74), some (.int (nI j)), some (.int (accI (fun i => nI (abv (NT.fi t) (NT.se t) s j (dpj (NT.fi t) (NT.se t) s (s.2.1 i)) (s.2.1 i))) m (i + 1) (acc + nI (abv (NT.fi t) (NT.se t) s j (dpj (NT.fi t) (NT.se t) s (s.2.1 i)) (s.2.1 i))))), none, none, none] [] h Q := K
    have ih' := ih (i + 1) _ (by omega) K'
    refine r_iload_3 dX8_behind_21 ?_
    refine r_aload_0 dX8_behind_22 ?_
    refine r_getI dX8_behind_23 fl_X8_278 rfl ?_
    rw [tc.2.1]
    refine r_icmpN_ge 97 dX8_behind_26 (by decide) (by omega) (by omega) (fun c_26 => by omega) (fun c_26 => ?_)
    refine r_iconst (v := 0) dX8_behind_29 (by decide) ?_
    refine r_istore_4 dX8_behind_30 ?_
    refine r_aload_0 dX8_behind_32 ?_
    refine r_getR (a := 86) dX8_behind_33 fl_X8_49 rfl rfl ?_
    refine r_iload_3 dX8_behind_36 ?_
    refine r_ialdN dX8_behind_37 rfl (by omega) ?_
    rw [tc.2.2.1 i hi1]
    refine r_istore_5 dX8_behind_38 ?_
    refine mbh_in ok tw nc tc hj acc _ _ hv rfl ?_
    generalize abv (NT.fi t) (NT.se t) s j (dpj (NT.fi t) (NT.se t) s (s.2.1 i)) (s.2.1 i) = y at *
    have hy : y = 0 ∨ y = 1 := by omega
    rcases hy with rfl | rfl
    · refine r_iload_2 dX8_behind_78 ?_
      refine r_iload_4 dX8_behind_79 ?_
      refine r_if_eq 88 dX8_behind_81 (by decide) (fun c_81 => ?_) (fun c_81 => by exact absurd rfl c_81)
      refine r_iconst (v := nI 0) dX8_behind_88 (by decide) ?_
      refine r_iadd dX8_behind_89 ?_
      refine r_istore_2 dX8_behind_90 ?_
      refine r_iincN_3 dX8_behind_91 ?_
      refine r_goto 21 dX8_behind_94 (by decide) ?_
      refine RT.sub (lv' := [some (.ref 74), some (.int (nI j)), some (.int (acc + nI 0)), some (.int (nI (i + 1))), none, none]) (by simp [lsub]) ?_
      exact ih'
    · refine r_iload_2 dX8_behind_78 ?_
      refine r_iload_4 dX8_behind_79 ?_
      refine r_if_eq 88 dX8_behind_81 (by decide) (fun c_81 => by exact absurd c_81 (by decide)) (fun c_81 => ?_)
      refine r_iconst (v := nI 1) dX8_behind_84 (by decide) ?_
      refine r_goto 89 dX8_behind_85 (by decide) ?_
      refine r_iadd dX8_behind_89 ?_
      refine r_istore_2 dX8_behind_90 ?_
      refine r_iincN_3 dX8_behind_91 ?_
      refine r_goto 21 dX8_behind_94 (by decide) ?_
      refine RT.sub (lv' := [some (.ref 74), some (.int (nI j)), some (.int (acc + nI 1)), some (.int (nI (i + 1))), none, none]) (by simp [lsub]) ?_
      exact ih'
theorem bh_un {E : Nat} {fi se : Nat → Nat} {op : Nat → Bool} {s : TS} (tw : TW E fi se op s) (hE : endsOK E fi se) (hE14 : E ≤ 14) {j : Nat} (hj : s.2.2.2 j = false) : ∀ (m i : Nat) (acc : Int32), i + m = s.1 → accI (fun i => nI (abv fi se s j (dpj fi se s (s.2.1 i)) (s.2.1 i))) m i acc = acc
  | 0, _, _, _ => rfl
  | m + 1, i, acc, h => by
    have a := abv_1 tw hE hE14 j _ _ (tw.1 i (by omega)).2 rfl
    have : abv fi se s j (dpj fi se s (s.2.1 i)) (s.2.1 i) = 0 := by
      by_cases q : abv fi se s j (dpj fi se s (s.2.1 i)) (s.2.1 i) = 1
      · have := a.2 q; rw [hj] at this; cases this
      · have := a.1; omega
    show accI _ m (i + 1) (acc + nI (abv fi se s j (dpj fi se s (s.2.1 i)) (s.2.1 i))) = acc
    rw [this, show acc + nI 0 = acc from Int32.add_zero acc]
    exact bh_un tw hE hE14 hj m (i + 1) acc (by omega)
theorem bh_1 {E : Nat} {fi se : Nat → Nat} {op : Nat → Bool} {s : TS} (tw : TW E fi se op s) (j : Nat) : bhS fi se s j = accI (fun i => nI (abv fi se s j (dpj fi se s (s.2.1 i)) (s.2.1 i))) (s.1 - 1) 1 0 := by
  have h1 := tw.2.2.2.1.1
  unfold bhS
  obtain ⟨k, hk⟩ : ∃ k, s.1 = k + 1 := ⟨s.1 - 1, by omega⟩
  rw [hk]
  show accI _ k 1 (0 + nI (abv fi se s j (dpj fi se s (s.2.1 0)) (s.2.1 0))) = accI _ k 1 0
  rw [tw.2.2.2.1.2, TW.dp0]; rfl
set_option maxRecDepth 100000 in
set_option maxHeartbeats 4000000 in
theorem o_behind {h : PH} (i : INV h) (x : Int32) : Same mX7_behind 2 [.ref 0, .int x] mX8_behind 3 [.ref 74, .int x] h := by
  obtain ⟨n, bs, tr, fl, wp, t, nm, ac, ms, i1, i2, i3, i4, i5, i6⟩ := i
  have hb := i3.e
  have f6 : ∀ y, (clH h y).1 74 6 = nI (NT.J t) := fun y => by rw [clH_1 (by decide)]; exact i6.1
  by_cases hx : 0 ≤ x ∧ x < nI (NT.J t)
  · obtain ⟨j, hj, rfl⟩ := ex_nat hb.1 hx
    have hJ : 0 < NT.J t := by omega
    obtain ⟨tx, nok, mok, sc, nac, acc, mec⟩ := (i3.k (clH_kC (x := 0))).2.2.2 hJ
    have ok := tx.1
    have hE14 := ok.2.2.1
    have hJ9 := ok.2.1
    obtain ⟨nc, s9, s10, s12, s11, tc, rc, flc, hdc⟩ := sc
    obtain ⟨-, -, m44, m46, -, mm⟩ := (i6.k (clH_kM (x := 0))).rf 0
    obtain ⟨rwm, sm, nam, acm, mem⟩ := mm hJ
    obtain ⟨ncm, p28, p39, p41, p40, tcm, rcm, flm, hdm⟩ := sm
    have tw := ok.tw (solveS (snOf t)).1
    have s1 := tw.2.2.2.1.1
    refine ⟨.int (bhS (NT.fi t) (NT.se t) (trS (snOf t) (solveS (snOf t)).1) j), 0, by decide, ?_, ?_⟩
    · refine Con.mk (by decide) ?_
      show RT _ _ 0 [some (.ref 0), some (.int (nI j))] [] _ _
      refine r_aload_0 dX7_behind_0 ?_
      refine r_getR (a := 15) dX7_behind_1 fl_X7_37 rfl rfl ?_
      refine r_iload_1 dX7_behind_4 ?_
      refine r_cV1 mX2_hasJoint dX7_behind_5 ml_X7_183 mo_X2_hasJoint rfl (k_X2_hasJoint isN15 h (nI j)) (by decide) ?_
      rw [i3.1, b2i_t hx]
      refine r_if_ne 17 dX7_behind_8 (by decide) (fun c_8 => ?_) (fun c_8 => by exact absurd c_8 (by decide))
      refine r_aload_0 dX7_behind_17 ?_
      refine r_cW0 mX7_allow dX7_behind_18 ml_X7_79 mo_X7_allow rfl (k_allow h) (by decide) ?_
      refine r_aload_0 dX7_behind_21 ?_
      refine r_getR (a := 14) dX7_behind_22 fl_X7_29 rfl rfl ?_
      refine r_getR (a := 25) dX7_behind_25 fl_X7_161 rfl rfl ?_
      refine r_iload_1 dX7_behind_28 ?_
      refine r_cV1 mX5_countBehind dX7_behind_29 ml_X7_241 mo_X5_countBehind rfl (k_behind (Or.inl rfl) tw ok.ends hE14 tc (by omega)) (by decide) ?_
      refine r_iret dX7_behind_32 rfl ?_
      exact ⟨rfl, rfl⟩
    · refine Con.mk (by decide) ?_
      show RT _ _ 0 [some (.ref 74), some (.int (nI j)), none, none, none, none] [] _ _
      refine r_aload_0 dX8_behind_0 ?_
      refine r_aload_0 dX8_behind_1 ?_
      refine r_iload_1 dX8_behind_2 ?_
      refine r_cV1 mX8_isJoint dX8_behind_3 ml_X8_327 mo_X8_isJoint rfl (q_isJoint _ hb.1 (f6 0) _) (by decide) ?_
      refine r_cS1 mX8_unless dX8_behind_6 ml_X8_330 mo_X8_unless (q_unless _ _) (by decide) ?_
      rw [goods hx]
      refine r_cV1 mX8_isRefused dX8_behind_9 ml_X8_245 mo_X8_isRefused rfl (q_isRefused _ _) (by decide) ?_
      rw [b2i_f (by decide)]
      refine r_if_eq 17 dX8_behind_12 (by decide) (fun c_12 => ?_) (fun c_12 => by exact absurd rfl c_12)
      refine r_iconst (v := 0) dX8_behind_17 (by decide) ?_
      refine r_istore_2 dX8_behind_18 ?_
      refine r_iconst (v := nI 1) dX8_behind_19 (by decide) ?_
      refine r_istore_3 dX8_behind_20 ?_
      refine mbh_out ok tw ncm tcm (by omega) ((trS (snOf t) (solveS (snOf t)).1).1 - 1) 1 0 (by omega) ?_
      rw [← bh_1 tw j]
      cases hm : (trS (snOf t) (solveS (snOf t)).1).2.2.2 j
      · refine r_aload_0 dX8_behind_97 ?_
        refine r_iload_1 dX8_behind_98 ?_
        refine r_cV1 mX8_isMet dX8_behind_99 ml_X8_272 mo_X8_isMet rfl (q_isMet _ (j := j) (by omega)) (by decide) ?_
        rw [tcm.1 j (by omega), hm]
        refine r_if_eq 109 dX8_behind_102 (by decide) (fun c_102 => ?_) (fun c_102 => by exact absurd rfl c_102)
        refine r_iconst (v := 0) dX8_behind_109 (by decide) ?_
        refine r_iret dX8_behind_110 rfl ?_
        exact ⟨by rw [bh_1 tw j, bh_un tw ok.ends hE14 hm _ _ _ (by omega)], rfl⟩
      · refine r_aload_0 dX8_behind_97 ?_
        refine r_iload_1 dX8_behind_98 ?_
        refine r_cV1 mX8_isMet dX8_behind_99 ml_X8_272 mo_X8_isMet rfl (q_isMet _ (j := j) (by omega)) (by decide) ?_
        rw [tcm.1 j (by omega), hm]
        refine r_if_eq 109 dX8_behind_102 (by decide) (fun c_102 => by exact absurd c_102 (by decide)) (fun c_102 => ?_)
        refine r_iload_2 dX8_behind_105 ?_
        refine r_goto 110 dX8_behind_106 (by decide) ?_
        refine r_iret dX8_behind_110 rfl ?_
        exact ⟨rfl, rfl⟩
  · refine ⟨.int (-1), 1, by decide, ?_, ?_⟩
    · refine Con.mk (by decide) ?_
      show RT _ _ 0 [some (.ref 0), some (.int x)] [] _ _
      refine r_aload_0 dX7_behind_0 ?_
      refine r_getR (a := 15) dX7_behind_1 fl_X7_37 rfl rfl ?_
      refine r_iload_1 dX7_behind_4 ?_
      refine r_cV1 mX2_hasJoint dX7_behind_5 ml_X7_183 mo_X2_hasJoint rfl (k_X2_hasJoint isN15 h x) (by decide) ?_
      rw [i3.1, b2i_f hx]
      refine r_if_ne 17 dX7_behind_8 (by decide) (fun c_8 => by exact absurd rfl c_8) (fun c_8 => ?_)
      refine r_aload_0 dX7_behind_11 ?_
      refine r_iconst (v := 1) dX7_behind_12 (by decide) ?_
      refine r_cV1 mX7_refuse dX7_behind_13 ml_X7_65 mo_X7_refuse rfl (k_refuse h 1) (by decide) ?_
      refine r_iret dX7_behind_16 rfl ?_
      exact ⟨rfl, rfl⟩
    · refine Con.mk (by decide) ?_
      show RT _ _ 0 [some (.ref 74), some (.int x), none, none, none, none] [] _ _
      refine r_aload_0 dX8_behind_0 ?_
      refine r_aload_0 dX8_behind_1 ?_
      refine r_iload_1 dX8_behind_2 ?_
      refine r_cV1 mX8_isJoint dX8_behind_3 ml_X8_327 mo_X8_isJoint rfl (q_isJoint _ hb.1 (f6 1) _) (by decide) ?_
      refine r_cS1 mX8_unless dX8_behind_6 ml_X8_330 mo_X8_unless (q_unless _ _) (by decide) ?_
      rw [bads hx]
      refine r_cV1 mX8_isRefused dX8_behind_9 ml_X8_245 mo_X8_isRefused rfl (q_isRefused _ _) (by decide) ?_
      rw [b2i_t (by decide)]
      refine r_if_eq 17 dX8_behind_12 (by decide) (fun c_12 => by exact absurd c_12 (by decide)) (fun c_12 => ?_)
      refine r_iconst (v := (-1)) dX8_behind_15 (by decide) ?_
      refine r_iret dX8_behind_16 rfl ?_
      exact ⟨rfl, rfl⟩

