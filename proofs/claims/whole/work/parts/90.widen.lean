/-! ===== the reference: seeksWidest; widen, widened ===== -/
def RW (h : PH) (b : WB) : Prop := h.1 74 47 = wE b ∧ ∀ x, b = some x → h.2 74 48 = x.2 ∧ x.1 < 14
theorem pL_fst {h : PH} {o k : Nat} {x : Int64} : (pL h o k x).1 = h.1 := rfl
theorem RW.k {h h' : PH} {b : WB} (r : RW h b) (e1 : h'.1 74 47 = h.1 74 47) (e2 : h'.2 74 = h.2 74) : RW h' b := ⟨e1.trans r.1, fun x q => by rw [e2]; exact r.2 x q⟩
set_option maxRecDepth 100000 in
set_option maxHeartbeats 4000000 in
theorem mwd_loop {t : NT} (tx : TxOK t) (h0 : PH) : ∀ (m e : Nat) (b : WB) (h : PH), e + m = NT.E t → RawM h t → h.1 74 44 = -1 → h.1 74 46 = 100 → RW h b → FM slS slG h0 h → RT mX8_seeksWidest 7 13 [some (.ref 74), some (.int (nI e)), none] [] h (fun a h' => a = none ∧ (SolM h' t (solveS (snOf t)) ∧ h'.1 74 44 = -1 ∧ h'.1 74 46 = 100 ∧ RW h' (wdS t m e b) ∧ FM slS slG h0 h')) := by
  have ok := tx.1
  have hE14 := ok.2.2.1
  have t2 : (2 : Int32).toInt = 2 := by decide +kernel
  intro m
  induction m with
  | zero =>
    intro e b h he r h44 h46 rw_ fr
    have k1 : h.1 74 7 = nI (NT.E t) := r.2.1
    have nc := r.net tx h44 h46
    refine r_iload_1 dX8_seeksWidest_13 ?_
    refine r_aload_0 dX8_seeksWidest_14 ?_
    refine r_getI dX8_seeksWidest_15 fl_X8_232 rfl ?_
    rw [k1]
    refine r_icmpN_ge 133 dX8_seeksWidest_18 (by decide) (by omega) (by omega) (fun c_18 => ?_) (fun c_18 => by omega)
    refine r_aload_0 dX8_seeksWidest_133 ?_
    refine r_cWQ0 mX8_solves dX8_seeksWidest_134 ml_X8_260 mo_X8_solves rfl (q_solves ok nc) (by decide) (fun h1 p1 => ?_)
    obtain ⟨s1, f1⟩ := p1
    refine r_vret dX8_seeksWidest_137 rfl ?_
    exact ⟨rfl, s1, (f1.1 44 (by unfold slF; omega)).trans h44, (f1.1 46 (by unfold slF; omega)).trans h46, rw_.k (f1.1 47 (by unfold slF; omega)) (f1.2.2 (by unfold slF; omega)), fr.tr f1.toG⟩
  | succ m ih =>
    intro e b h he r h44 h46 rw_ fr
    have k1 : h.1 74 7 = nI (NT.E t) := r.2.1
    have k3 : h.1 74 17 = NT.cl t := r.2.2.1
    obtain ⟨-, -, kk, kr, -, -⟩ := r.2.2.2.2 e (by omega)
    have go : ∀ b' h1, (if (¬ NT.kd t e = 2 ∧ 2 ≤ (NT.rs t e).toInt ∧ bt (NT.cl t) e = false) then wd1 (lsN (widT t e)) e b else b) = b' → FM slS slG h h1 → h1.1 74 44 = -1 → h1.1 74 46 = 100 → RW h1 b' → RT mX8_seeksWidest 7 13 [some (.ref 74), some (.int (nI (e + 1))), none] [] h1 (fun a h' => a = none ∧ (SolM h' t (solveS (snOf t)) ∧ h'.1 74 44 = -1 ∧ h'.1 74 46 = 100 ∧ RW h' (wdS t (m + 1) e b) ∧ FM slS slG h0 h')) := fun b' h1 eb f1 e44 e46 r1 => by
      show RT _ _ _ _ _ _ (fun a h' => a = none ∧ (SolM h' t (solveS (snOf t)) ∧ h'.1 74 44 = -1 ∧ h'.1 74 46 = 100 ∧ RW h' (wdS t m (e + 1) (if (¬ NT.kd t e = 2 ∧ 2 ≤ (NT.rs t e).toInt ∧ bt (NT.cl t) e = false) then wd1 (lsN (widT t e)) e b else b)) ∧ FM slS slG h0 h'))
      rw [eb]
      exact ih (e + 1) b' h1 (by omega) (r.fm f1) e44 e46 r1 (fr.tr f1)
    by_cases hk : NT.kd t e = 2
    · skip
      refine r_iload_1 dX8_seeksWidest_13 ?_
      refine r_aload_0 dX8_seeksWidest_14 ?_
      refine r_getI dX8_seeksWidest_15 fl_X8_232 rfl ?_
      rw [k1]
      refine r_icmpN_ge 133 dX8_seeksWidest_18 (by decide) (by omega) (by omega) (fun c_18 => by omega) (fun c_18 => ?_)
      refine r_aload_0 dX8_seeksWidest_21 ?_
      refine r_getR (a := 81) dX8_seeksWidest_22 fl_X8_34 rfl rfl ?_
      refine r_iload_1 dX8_seeksWidest_25 ?_
      refine r_ialdN dX8_seeksWidest_26 rfl (by omega) ?_
      rw [kk]
      refine r_iconst (v := 2) dX8_seeksWidest_27 (by decide) ?_
      refine r_icmp_eq 127 dX8_seeksWidest_28 (by decide) (fun c_28 => ?_) (fun c_28 => by exact absurd hk c_28)
      refine r_iincN_1 dX8_seeksWidest_127 ?_
      refine r_goto 13 dX8_seeksWidest_130 (by decide) ?_
      refine RT.sub (lv' := [some (.ref 74), some (.int (nI (e + 1))), none]) (by simp [lsub]) ?_
      exact go b h (if_neg (fun q => q.1 hk)) FM.rf h44 h46 rw_
    · have kr' : h.1 82 e = NT.rs t e := kr.trans (if_neg hk)
      by_cases hc : bt (NT.cl t) e = true
      · skip
        refine r_iload_1 dX8_seeksWidest_13 ?_
        refine r_aload_0 dX8_seeksWidest_14 ?_
        refine r_getI dX8_seeksWidest_15 fl_X8_232 rfl ?_
        rw [k1]
        refine r_icmpN_ge 133 dX8_seeksWidest_18 (by decide) (by omega) (by omega) (fun c_18 => by omega) (fun c_18 => ?_)
        refine r_aload_0 dX8_seeksWidest_21 ?_
        refine r_getR (a := 81) dX8_seeksWidest_22 fl_X8_34 rfl rfl ?_
        refine r_iload_1 dX8_seeksWidest_25 ?_
        refine r_ialdN dX8_seeksWidest_26 rfl (by omega) ?_
        rw [kk]
        refine r_iconst (v := 2) dX8_seeksWidest_27 (by decide) ?_
        refine r_icmp_eq 127 dX8_seeksWidest_28 (by decide) (fun c_28 => by exact absurd c_28 hk) (fun c_28 => ?_)
        refine r_aload_0 dX8_seeksWidest_31 ?_
        refine r_getI dX8_seeksWidest_32 fl_X8_235 rfl ?_
        rw [k3]
        refine r_iload_1 dX8_seeksWidest_35 ?_
        refine r_ishr dX8_seeksWidest_36 ?_
        refine r_iconst (v := 1) dX8_seeksWidest_37 (by decide) ?_
        refine r_iand dX8_seeksWidest_38 ?_
        rw [bit_eq _ (by omega), b2i_t hc]
        refine r_iconst (v := 1) dX8_seeksWidest_39 (by decide) ?_
        refine r_icmp_eq 127 dX8_seeksWidest_40 (by decide) (fun c_40 => ?_) (fun c_40 => by exact absurd rfl c_40)
        refine r_iincN_1 dX8_seeksWidest_127 ?_
        refine r_goto 13 dX8_seeksWidest_130 (by decide) ?_
        refine RT.sub (lv' := [some (.ref 74), some (.int (nI (e + 1))), none]) (by simp [lsub]) ?_
        exact go b h (if_neg (fun q => absurd hc (by rw [q.2.2]; decide))) FM.rf h44 h46 rw_
      · have hc' := Bool.eq_false_iff.mpr hc
        by_cases hr : 2 ≤ (NT.rs t e).toInt
        · have okw := ok.wid (by omega) hk hr
          have ncw : NetM (pI h 82 e (NT.rs t e - 1)) (widT t e) := r.rsw tx h44 h46 _
          have em : ∀ b', wd1 (lsN (widT t e)) e b = b' → (if (¬ NT.kd t e = 2 ∧ 2 ≤ (NT.rs t e).toInt ∧ bt (NT.cl t) e = false) then wd1 (lsN (widT t e)) e b else b) = b' := fun b' q => (if_pos ⟨hk, hr, hc'⟩).trans q
          have fin : ∀ b' h1 h2, wd1 (lsN (widT t e)) e b = b' → FM slS slF (pI h 82 e (NT.rs t e - 1)) h1 → FM slS slG h1 h2 → h2.1 74 44 = h1.1 74 44 → h2.1 74 46 = h1.1 74 46 → RW h2 b' → RT mX8_seeksWidest 7 13 [some (.ref 74), some (.int (nI (e + 1))), none] [] (pI h2 82 e (NT.rs t e)) (fun a h' => a = none ∧ (SolM h' t (solveS (snOf t)) ∧ h'.1 74 44 = -1 ∧ h'.1 74 46 = 100 ∧ RW h' (wdS t (m + 1) e b) ∧ FM slS slG h0 h')) := fun b' h1 h2 eb f1 f2 q1 q2 r2 => by
            refine go b' _ (em b' eb) (fm_rs (f1.toG.tr f2) kr') ?_ ?_ (r2.k (pI_ne 74 47 (Or.inl (by decide))) rfl)
            · rw [pI_ne 74 44 (Or.inl (by decide)), q1, f1.1 44 (by unfold slF; omega), pI_ne 74 44 (Or.inl (by decide))]; exact h44
            · rw [pI_ne 74 46 (Or.inl (by decide)), q2, f1.1 46 (by unfold slF; omega), pI_ne 74 46 (Or.inl (by decide))]; exact h46
          have e82 : ∀ {h1 : PH}, FM slS slF (pI h 82 e (NT.rs t e - 1)) h1 → h1.1 82 e = NT.rs t e - 1 := fun f1 => by rw [(f1.2.1 82 (by decide) (fun q => by have := q.1; omega)).1]; exact pI_eq
          have rwn : ∀ {h1 : PH}, FM slS slF (pI h 82 e (NT.rs t e - 1)) h1 → RW h1 b := fun f1 => rw_.k ((f1.1 47 (by unfold slF; omega)).trans (pI_ne 74 47 (Or.inl (by decide)))) (f1.2.2 (by unfold slF; omega))
          cases hw : wkA (widT t e) (trS (snOf (widT t e)) (solveS (snOf (widT t e))).1) (hdS (snOf (widT t e)) (solveS (snOf (widT t e))).1) with
          | none =>
            have el : lsN (widT t e) = (-9223372036854775808) := by unfold lsN lpS; rw [hw]
            refine r_iload_1 dX8_seeksWidest_13 ?_
            refine r_aload_0 dX8_seeksWidest_14 ?_
            refine r_getI dX8_seeksWidest_15 fl_X8_232 rfl ?_
            rw [k1]
            refine r_icmpN_ge 133 dX8_seeksWidest_18 (by decide) (by omega) (by omega) (fun c_18 => by omega) (fun c_18 => ?_)
            refine r_aload_0 dX8_seeksWidest_21 ?_
            refine r_getR (a := 81) dX8_seeksWidest_22 fl_X8_34 rfl rfl ?_
            refine r_iload_1 dX8_seeksWidest_25 ?_
            refine r_ialdN dX8_seeksWidest_26 rfl (by omega) ?_
            rw [kk]
            refine r_iconst (v := 2) dX8_seeksWidest_27 (by decide) ?_
            refine r_icmp_eq 127 dX8_seeksWidest_28 (by decide) (fun c_28 => by exact absurd c_28 hk) (fun c_28 => ?_)
            refine r_aload_0 dX8_seeksWidest_31 ?_
            refine r_getI dX8_seeksWidest_32 fl_X8_235 rfl ?_
            rw [k3]
            refine r_iload_1 dX8_seeksWidest_35 ?_
            refine r_ishr dX8_seeksWidest_36 ?_
            refine r_iconst (v := 1) dX8_seeksWidest_37 (by decide) ?_
            refine r_iand dX8_seeksWidest_38 ?_
            rw [bit_eq _ (by omega), b2i_f hc]
            refine r_iconst (v := 1) dX8_seeksWidest_39 (by decide) ?_
            refine r_icmp_eq 127 dX8_seeksWidest_40 (by decide) (fun c_40 => by exact absurd c_40 (by decide)) (fun c_40 => ?_)
            refine r_aload_0 dX8_seeksWidest_43 ?_
            refine r_getR (a := 82) dX8_seeksWidest_44 fl_X8_37 rfl rfl ?_
            refine r_iload_1 dX8_seeksWidest_47 ?_
            refine r_ialdN dX8_seeksWidest_48 rfl (by omega) ?_
            rw [kr']
            refine r_iconst (v := 2) dX8_seeksWidest_49 (by decide) ?_
            refine r_icmp_ge 56 dX8_seeksWidest_50 (by decide) (fun c_50 => ?_) (fun c_50 => by exact absurd (by rw [fa_le, t2]; exact hr) c_50)
            refine r_aload_0 dX8_seeksWidest_56 ?_
            refine r_getR (a := 82) dX8_seeksWidest_57 fl_X8_37 rfl rfl ?_
            refine r_iload_1 dX8_seeksWidest_60 ?_
            refine r_dup2ir dX8_seeksWidest_61 ?_
            refine r_ialdN dX8_seeksWidest_62 rfl (by omega) ?_
            rw [kr']
            refine r_iconst (v := 1) dX8_seeksWidest_63 (by decide) ?_
            refine r_isub dX8_seeksWidest_64 ?_
            refine r_iastN dX8_seeksWidest_65 rfl (by omega) ?_
            refine r_aload_0 dX8_seeksWidest_66 ?_
            refine r_cWQ0 mX8_solves dX8_seeksWidest_67 ml_X8_260 mo_X8_solves rfl (q_solves okw ncw) (by decide) (fun h1 p1 => ?_)
            obtain ⟨s1, f1⟩ := p1
            refine r_aload_0 dX8_seeksWidest_70 ?_
            refine r_cV0 mX8_weakestNow dX8_seeksWidest_71 ml_X8_413 mo_X8_weakestNow rfl (q_weak okw _ s1.1 s1.2.2.2.2.2.1 _ (hd_at okw _ s1.2.2.2.2.2.2.2.2)) (by decide) ?_
            rw [hw]
            refine r_istore_2 dX8_seeksWidest_74 ?_
            refine r_iload_2 dX8_seeksWidest_75 ?_
            refine r_bipush (v := (-2)) dX8_seeksWidest_76 (by decide) ?_
            refine r_icmp_eq 117 dX8_seeksWidest_78 (by decide) (fun c_78 => ?_) (fun c_78 => by exact absurd rfl c_78)
            refine r_aload_0 dX8_seeksWidest_117 ?_
            refine r_getR (a := 82) dX8_seeksWidest_118 fl_X8_37 rfl rfl ?_
            refine r_iload_1 dX8_seeksWidest_121 ?_
            refine r_dup2ir dX8_seeksWidest_122 ?_
            refine r_ialdN dX8_seeksWidest_123 rfl (by omega) ?_
            rw [e82 f1]
            refine r_iconst (v := 1) dX8_seeksWidest_124 (by decide) ?_
            refine r_iadd dX8_seeksWidest_125 ?_
            rw [Int32.sub_add_cancel]
            refine r_iastN dX8_seeksWidest_126 rfl (by omega) ?_
            refine r_iincN_1 dX8_seeksWidest_127 ?_
            refine r_goto 13 dX8_seeksWidest_130 (by decide) ?_
            refine RT.sub (lv' := [some (.ref 74), some (.int (nI (e + 1))), none]) (by simp [lsub]) ?_
            exact fin b h1 h1 (by rw [el]; exact if_neg min_nlt) f1 FM.rf rfl rfl (rwn f1)
          | some k =>
            have hkm := wkA_met hw
            have el : lsN (widT t e) = prS (widT t e) (hdS (snOf (widT t e)) (solveS (snOf (widT t e))).1) k := by unfold lsN lpS; rw [hw]
            have en : prS (widT t e) (hdS (snOf (widT t e)) (solveS (snOf (widT t e))).1) k ≠ (-9223372036854775808) := pr_ne (okw.ok.hds _) k
            have hkJ : k < NT.J (widT t e) := okw.met _ hkm.1
            have hk9 := okw.2.1
            cases b with
            | none =>
              refine r_iload_1 dX8_seeksWidest_13 ?_
              refine r_aload_0 dX8_seeksWidest_14 ?_
              refine r_getI dX8_seeksWidest_15 fl_X8_232 rfl ?_
              rw [k1]
              refine r_icmpN_ge 133 dX8_seeksWidest_18 (by decide) (by omega) (by omega) (fun c_18 => by omega) (fun c_18 => ?_)
              refine r_aload_0 dX8_seeksWidest_21 ?_
              refine r_getR (a := 81) dX8_seeksWidest_22 fl_X8_34 rfl rfl ?_
              refine r_iload_1 dX8_seeksWidest_25 ?_
              refine r_ialdN dX8_seeksWidest_26 rfl (by omega) ?_
              rw [kk]
              refine r_iconst (v := 2) dX8_seeksWidest_27 (by decide) ?_
              refine r_icmp_eq 127 dX8_seeksWidest_28 (by decide) (fun c_28 => by exact absurd c_28 hk) (fun c_28 => ?_)
              refine r_aload_0 dX8_seeksWidest_31 ?_
              refine r_getI dX8_seeksWidest_32 fl_X8_235 rfl ?_
              rw [k3]
              refine r_iload_1 dX8_seeksWidest_35 ?_
              refine r_ishr dX8_seeksWidest_36 ?_
              refine r_iconst (v := 1) dX8_seeksWidest_37 (by decide) ?_
              refine r_iand dX8_seeksWidest_38 ?_
              rw [bit_eq _ (by omega), b2i_f hc]
              refine r_iconst (v := 1) dX8_seeksWidest_39 (by decide) ?_
              refine r_icmp_eq 127 dX8_seeksWidest_40 (by decide) (fun c_40 => by exact absurd c_40 (by decide)) (fun c_40 => ?_)
              refine r_aload_0 dX8_seeksWidest_43 ?_
              refine r_getR (a := 82) dX8_seeksWidest_44 fl_X8_37 rfl rfl ?_
              refine r_iload_1 dX8_seeksWidest_47 ?_
              refine r_ialdN dX8_seeksWidest_48 rfl (by omega) ?_
              rw [kr']
              refine r_iconst (v := 2) dX8_seeksWidest_49 (by decide) ?_
              refine r_icmp_ge 56 dX8_seeksWidest_50 (by decide) (fun c_50 => ?_) (fun c_50 => by exact absurd (by rw [fa_le, t2]; exact hr) c_50)
              refine r_aload_0 dX8_seeksWidest_56 ?_
              refine r_getR (a := 82) dX8_seeksWidest_57 fl_X8_37 rfl rfl ?_
              refine r_iload_1 dX8_seeksWidest_60 ?_
              refine r_dup2ir dX8_seeksWidest_61 ?_
              refine r_ialdN dX8_seeksWidest_62 rfl (by omega) ?_
              rw [kr']
              refine r_iconst (v := 1) dX8_seeksWidest_63 (by decide) ?_
              refine r_isub dX8_seeksWidest_64 ?_
              refine r_iastN dX8_seeksWidest_65 rfl (by omega) ?_
              refine r_aload_0 dX8_seeksWidest_66 ?_
              refine r_cWQ0 mX8_solves dX8_seeksWidest_67 ml_X8_260 mo_X8_solves rfl (q_solves okw ncw) (by decide) (fun h1 p1 => ?_)
              obtain ⟨s1, f1⟩ := p1
              refine r_aload_0 dX8_seeksWidest_70 ?_
              refine r_cV0 mX8_weakestNow dX8_seeksWidest_71 ml_X8_413 mo_X8_weakestNow rfl (q_weak okw _ s1.1 s1.2.2.2.2.2.1 _ (hd_at okw _ s1.2.2.2.2.2.2.2.2)) (by decide) ?_
              rw [hw]
              refine r_istore_2 dX8_seeksWidest_74 ?_
              refine r_iload_2 dX8_seeksWidest_75 ?_
              refine r_bipush (v := (-2)) dX8_seeksWidest_76 (by decide) ?_
              refine r_icmp_eq 117 dX8_seeksWidest_78 (by decide) (fun c_78 => by exact absurd c_78 (nI_nm2 (by omega))) (fun c_78 => ?_)
              refine r_aload_0 dX8_seeksWidest_81 ?_
              refine r_getI dX8_seeksWidest_82 fl_X8_452 rfl ?_
              rw [(rwn f1).1]
              refine r_bipush (v := (-2)) dX8_seeksWidest_85 (by decide) ?_
              refine r_icmp_eq 103 dX8_seeksWidest_87 (by decide) (fun c_87 => ?_) (fun c_87 => by exact absurd rfl c_87)
              refine r_aload_0 dX8_seeksWidest_103 ?_
              refine r_iload_1 dX8_seeksWidest_104 ?_
              refine r_putI dX8_seeksWidest_105 fl_X8_452 rfl rfl rfl ?_
              refine r_aload_0 dX8_seeksWidest_108 ?_
              refine r_aload_0 dX8_seeksWidest_109 ?_
              refine r_iload_2 dX8_seeksWidest_110 ?_
              refine r_cV1 mX8_pressureOf dX8_seeksWidest_111 ml_X8_410 mo_X8_pressureOf rfl (q_press okw (s1.1.f2 (k := 47) _ (by omega)) _ (j := k) hkJ (hd_at okw _ s1.2.2.2.2.2.2.2.2 k hkm.1)) (by decide) ?_
              refine r_putL dX8_seeksWidest_114 fl_X8_455 rfl rfl rfl ?_
              refine r_aload_0 dX8_seeksWidest_117 ?_
              refine r_getR (a := 82) dX8_seeksWidest_118 fl_X8_37 rfl rfl ?_
              refine r_iload_1 dX8_seeksWidest_121 ?_
              refine r_dup2ir dX8_seeksWidest_122 ?_
              refine r_ialdN dX8_seeksWidest_123 rfl (by omega) ?_
              rw [show (pL (pI h1 74 47 (nI e)) 74 48 (prS (widT t e) (hdS (snOf (widT t e)) (solveS (snOf (widT t e))).1) k)).1 82 e = NT.rs t e - 1 by rw [pL_fst]; exact (pI_ne 82 e (Or.inl (by decide))).trans (e82 f1)]
              refine r_iconst (v := 1) dX8_seeksWidest_124 (by decide) ?_
              refine r_iadd dX8_seeksWidest_125 ?_
              rw [Int32.sub_add_cancel]
              refine r_iastN dX8_seeksWidest_126 rfl (by omega) ?_
              refine r_iincN_1 dX8_seeksWidest_127 ?_
              refine r_goto 13 dX8_seeksWidest_130 (by decide) ?_
              refine RT.sub (lv' := [some (.ref 74), some (.int (nI (e + 1))), none]) (by simp [lsub]) ?_
              refine fin (some (e, prS (widT t e) (hdS (snOf (widT t e)) (solveS (snOf (widT t e))).1) k)) h1 _ (by rw [el]; exact if_pos (min_lt en)) f1 (fm_pW (FM.rf.pF (by unfold slG; omega)) (by unfold slG; omega)) (by rw [pL_fst]; exact pI_ne 74 44 (Or.inr (by decide))) (by rw [pL_fst]; exact pI_ne 74 46 (Or.inr (by decide))) ⟨by rw [pL_fst]; exact pI_eq, fun x q => ?_⟩
              cases q
              exact ⟨pL_eq, by show e < 14; omega⟩
            | some x =>
              have hx := rw_.2 x rfl
              by_cases hg : x.2 < prS (widT t e) (hdS (snOf (widT t e)) (solveS (snOf (widT t e))).1) k
              · skip
                refine r_iload_1 dX8_seeksWidest_13 ?_
                refine r_aload_0 dX8_seeksWidest_14 ?_
                refine r_getI dX8_seeksWidest_15 fl_X8_232 rfl ?_
                rw [k1]
                refine r_icmpN_ge 133 dX8_seeksWidest_18 (by decide) (by omega) (by omega) (fun c_18 => by omega) (fun c_18 => ?_)
                refine r_aload_0 dX8_seeksWidest_21 ?_
                refine r_getR (a := 81) dX8_seeksWidest_22 fl_X8_34 rfl rfl ?_
                refine r_iload_1 dX8_seeksWidest_25 ?_
                refine r_ialdN dX8_seeksWidest_26 rfl (by omega) ?_
                rw [kk]
                refine r_iconst (v := 2) dX8_seeksWidest_27 (by decide) ?_
                refine r_icmp_eq 127 dX8_seeksWidest_28 (by decide) (fun c_28 => by exact absurd c_28 hk) (fun c_28 => ?_)
                refine r_aload_0 dX8_seeksWidest_31 ?_
                refine r_getI dX8_seeksWidest_32 fl_X8_235 rfl ?_
                rw [k3]
                refine r_iload_1 dX8_seeksWidest_35 ?_
                refine r_ishr dX8_seeksWidest_36 ?_
                refine r_iconst (v := 1) dX8_seeksWidest_37 (by decide) ?_
                refine r_iand dX8_seeksWidest_38 ?_
                rw [bit_eq _ (by omega), b2i_f hc]
                refine r_iconst (v := 1) dX8_seeksWidest_39 (by decide) ?_
                refine r_icmp_eq 127 dX8_seeksWidest_40 (by decide) (fun c_40 => by exact absurd c_40 (by decide)) (fun c_40 => ?_)
                refine r_aload_0 dX8_seeksWidest_43 ?_
                refine r_getR (a := 82) dX8_seeksWidest_44 fl_X8_37 rfl rfl ?_
                refine r_iload_1 dX8_seeksWidest_47 ?_
                refine r_ialdN dX8_seeksWidest_48 rfl (by omega) ?_
                rw [kr']
                refine r_iconst (v := 2) dX8_seeksWidest_49 (by decide) ?_
                refine r_icmp_ge 56 dX8_seeksWidest_50 (by decide) (fun c_50 => ?_) (fun c_50 => by exact absurd (by rw [fa_le, t2]; exact hr) c_50)
                refine r_aload_0 dX8_seeksWidest_56 ?_
                refine r_getR (a := 82) dX8_seeksWidest_57 fl_X8_37 rfl rfl ?_
                refine r_iload_1 dX8_seeksWidest_60 ?_
                refine r_dup2ir dX8_seeksWidest_61 ?_
                refine r_ialdN dX8_seeksWidest_62 rfl (by omega) ?_
                rw [kr']
                refine r_iconst (v := 1) dX8_seeksWidest_63 (by decide) ?_
                refine r_isub dX8_seeksWidest_64 ?_
                refine r_iastN dX8_seeksWidest_65 rfl (by omega) ?_
                refine r_aload_0 dX8_seeksWidest_66 ?_
                refine r_cWQ0 mX8_solves dX8_seeksWidest_67 ml_X8_260 mo_X8_solves rfl (q_solves okw ncw) (by decide) (fun h1 p1 => ?_)
                obtain ⟨s1, f1⟩ := p1
                refine r_aload_0 dX8_seeksWidest_70 ?_
                refine r_cV0 mX8_weakestNow dX8_seeksWidest_71 ml_X8_413 mo_X8_weakestNow rfl (q_weak okw _ s1.1 s1.2.2.2.2.2.1 _ (hd_at okw _ s1.2.2.2.2.2.2.2.2)) (by decide) ?_
                rw [hw]
                refine r_istore_2 dX8_seeksWidest_74 ?_
                refine r_iload_2 dX8_seeksWidest_75 ?_
                refine r_bipush (v := (-2)) dX8_seeksWidest_76 (by decide) ?_
                refine r_icmp_eq 117 dX8_seeksWidest_78 (by decide) (fun c_78 => by exact absurd c_78 (nI_nm2 (by omega))) (fun c_78 => ?_)
                refine r_aload_0 dX8_seeksWidest_81 ?_
                refine r_getI dX8_seeksWidest_82 fl_X8_452 rfl ?_
                rw [(rwn f1).1]
                refine r_bipush (v := (-2)) dX8_seeksWidest_85 (by decide) ?_
                refine r_icmp_eq 103 dX8_seeksWidest_87 (by decide) (fun c_87 => by exact absurd c_87 (nI_nm2 (by omega))) (fun c_87 => ?_)
                refine r_aload_0 dX8_seeksWidest_90 ?_
                refine r_iload_2 dX8_seeksWidest_91 ?_
                refine r_cV1 mX8_pressureOf dX8_seeksWidest_92 ml_X8_410 mo_X8_pressureOf rfl (q_press okw s1.1 _ (j := k) hkJ (hd_at okw _ s1.2.2.2.2.2.2.2.2 k hkm.1)) (by decide) ?_
                refine r_aload_0 dX8_seeksWidest_95 ?_
                refine r_getL dX8_seeksWidest_96 fl_X8_455 rfl ?_
                rw [((rwn f1).2 x rfl).1]
                refine r_lif_le 117 dX8_seeksWidest_99 dX8_seeksWidest_100 (by decide) (fun c_99 => by exact absurd hg (Int64.not_lt.mpr c_99)) (fun c_99 => ?_)
                refine r_aload_0 dX8_seeksWidest_103 ?_
                refine r_iload_1 dX8_seeksWidest_104 ?_
                refine r_putI dX8_seeksWidest_105 fl_X8_452 rfl rfl rfl ?_
                refine r_aload_0 dX8_seeksWidest_108 ?_
                refine r_aload_0 dX8_seeksWidest_109 ?_
                refine r_iload_2 dX8_seeksWidest_110 ?_
                refine r_cV1 mX8_pressureOf dX8_seeksWidest_111 ml_X8_410 mo_X8_pressureOf rfl (q_press okw (s1.1.f2 (k := 47) _ (by omega)) _ (j := k) hkJ (hd_at okw _ s1.2.2.2.2.2.2.2.2 k hkm.1)) (by decide) ?_
                refine r_putL dX8_seeksWidest_114 fl_X8_455 rfl rfl rfl ?_
                refine r_aload_0 dX8_seeksWidest_117 ?_
                refine r_getR (a := 82) dX8_seeksWidest_118 fl_X8_37 rfl rfl ?_
                refine r_iload_1 dX8_seeksWidest_121 ?_
                refine r_dup2ir dX8_seeksWidest_122 ?_
                refine r_ialdN dX8_seeksWidest_123 rfl (by omega) ?_
                rw [show (pL (pI h1 74 47 (nI e)) 74 48 (prS (widT t e) (hdS (snOf (widT t e)) (solveS (snOf (widT t e))).1) k)).1 82 e = NT.rs t e - 1 by rw [pL_fst]; exact (pI_ne 82 e (Or.inl (by decide))).trans (e82 f1)]
                refine r_iconst (v := 1) dX8_seeksWidest_124 (by decide) ?_
                refine r_iadd dX8_seeksWidest_125 ?_
                rw [Int32.sub_add_cancel]
                refine r_iastN dX8_seeksWidest_126 rfl (by omega) ?_
                refine r_iincN_1 dX8_seeksWidest_127 ?_
                refine r_goto 13 dX8_seeksWidest_130 (by decide) ?_
                refine RT.sub (lv' := [some (.ref 74), some (.int (nI (e + 1))), none]) (by simp [lsub]) ?_
                refine fin (some (e, prS (widT t e) (hdS (snOf (widT t e)) (solveS (snOf (widT t e))).1) k)) h1 _ (by rw [el]; exact if_pos hg) f1 (fm_pW (FM.rf.pF (by unfold slG; omega)) (by unfold slG; omega)) (by rw [pL_fst]; exact pI_ne 74 44 (Or.inr (by decide))) (by rw [pL_fst]; exact pI_ne 74 46 (Or.inr (by decide))) ⟨by rw [pL_fst]; exact pI_eq, fun x q => ?_⟩
                cases q
                exact ⟨pL_eq, by show e < 14; omega⟩
              · skip
                refine r_iload_1 dX8_seeksWidest_13 ?_
                refine r_aload_0 dX8_seeksWidest_14 ?_
                refine r_getI dX8_seeksWidest_15 fl_X8_232 rfl ?_
                rw [k1]
                refine r_icmpN_ge 133 dX8_seeksWidest_18 (by decide) (by omega) (by omega) (fun c_18 => by omega) (fun c_18 => ?_)
                refine r_aload_0 dX8_seeksWidest_21 ?_
                refine r_getR (a := 81) dX8_seeksWidest_22 fl_X8_34 rfl rfl ?_
                refine r_iload_1 dX8_seeksWidest_25 ?_
                refine r_ialdN dX8_seeksWidest_26 rfl (by omega) ?_
                rw [kk]
                refine r_iconst (v := 2) dX8_seeksWidest_27 (by decide) ?_
                refine r_icmp_eq 127 dX8_seeksWidest_28 (by decide) (fun c_28 => by exact absurd c_28 hk) (fun c_28 => ?_)
                refine r_aload_0 dX8_seeksWidest_31 ?_
                refine r_getI dX8_seeksWidest_32 fl_X8_235 rfl ?_
                rw [k3]
                refine r_iload_1 dX8_seeksWidest_35 ?_
                refine r_ishr dX8_seeksWidest_36 ?_
                refine r_iconst (v := 1) dX8_seeksWidest_37 (by decide) ?_
                refine r_iand dX8_seeksWidest_38 ?_
                rw [bit_eq _ (by omega), b2i_f hc]
                refine r_iconst (v := 1) dX8_seeksWidest_39 (by decide) ?_
                refine r_icmp_eq 127 dX8_seeksWidest_40 (by decide) (fun c_40 => by exact absurd c_40 (by decide)) (fun c_40 => ?_)
                refine r_aload_0 dX8_seeksWidest_43 ?_
                refine r_getR (a := 82) dX8_seeksWidest_44 fl_X8_37 rfl rfl ?_
                refine r_iload_1 dX8_seeksWidest_47 ?_
                refine r_ialdN dX8_seeksWidest_48 rfl (by omega) ?_
                rw [kr']
                refine r_iconst (v := 2) dX8_seeksWidest_49 (by decide) ?_
                refine r_icmp_ge 56 dX8_seeksWidest_50 (by decide) (fun c_50 => ?_) (fun c_50 => by exact absurd (by rw [fa_le, t2]; exact hr) c_50)
                refine r_aload_0 dX8_seeksWidest_56 ?_
                refine r_getR (a := 82) dX8_seeksWidest_57 fl_X8_37 rfl rfl ?_
                refine r_iload_1 dX8_seeksWidest_60 ?_
                refine r_dup2ir dX8_seeksWidest_61 ?_
                refine r_ialdN dX8_seeksWidest_62 rfl (by omega) ?_
                rw [kr']
                refine r_iconst (v := 1) dX8_seeksWidest_63 (by decide) ?_
                refine r_isub dX8_seeksWidest_64 ?_
                refine r_iastN dX8_seeksWidest_65 rfl (by omega) ?_
                refine r_aload_0 dX8_seeksWidest_66 ?_
                refine r_cWQ0 mX8_solves dX8_seeksWidest_67 ml_X8_260 mo_X8_solves rfl (q_solves okw ncw) (by decide) (fun h1 p1 => ?_)
                obtain ⟨s1, f1⟩ := p1
                refine r_aload_0 dX8_seeksWidest_70 ?_
                refine r_cV0 mX8_weakestNow dX8_seeksWidest_71 ml_X8_413 mo_X8_weakestNow rfl (q_weak okw _ s1.1 s1.2.2.2.2.2.1 _ (hd_at okw _ s1.2.2.2.2.2.2.2.2)) (by decide) ?_
                rw [hw]
                refine r_istore_2 dX8_seeksWidest_74 ?_
                refine r_iload_2 dX8_seeksWidest_75 ?_
                refine r_bipush (v := (-2)) dX8_seeksWidest_76 (by decide) ?_
                refine r_icmp_eq 117 dX8_seeksWidest_78 (by decide) (fun c_78 => by exact absurd c_78 (nI_nm2 (by omega))) (fun c_78 => ?_)
                refine r_aload_0 dX8_seeksWidest_81 ?_
                refine r_getI dX8_seeksWidest_82 fl_X8_452 rfl ?_
                rw [(rwn f1).1]
                refine r_bipush (v := (-2)) dX8_seeksWidest_85 (by decide) ?_
                refine r_icmp_eq 103 dX8_seeksWidest_87 (by decide) (fun c_87 => by exact absurd c_87 (nI_nm2 (by omega))) (fun c_87 => ?_)
                refine r_aload_0 dX8_seeksWidest_90 ?_
                refine r_iload_2 dX8_seeksWidest_91 ?_
                refine r_cV1 mX8_pressureOf dX8_seeksWidest_92 ml_X8_410 mo_X8_pressureOf rfl (q_press okw s1.1 _ (j := k) hkJ (hd_at okw _ s1.2.2.2.2.2.2.2.2 k hkm.1)) (by decide) ?_
                refine r_aload_0 dX8_seeksWidest_95 ?_
                refine r_getL dX8_seeksWidest_96 fl_X8_455 rfl ?_
                rw [((rwn f1).2 x rfl).1]
                refine r_lif_le 117 dX8_seeksWidest_99 dX8_seeksWidest_100 (by decide) (fun c_99 => ?_) (fun c_99 => by exact absurd (Int64.not_lt.mp hg) c_99)
                refine r_aload_0 dX8_seeksWidest_117 ?_
                refine r_getR (a := 82) dX8_seeksWidest_118 fl_X8_37 rfl rfl ?_
                refine r_iload_1 dX8_seeksWidest_121 ?_
                refine r_dup2ir dX8_seeksWidest_122 ?_
                refine r_ialdN dX8_seeksWidest_123 rfl (by omega) ?_
                rw [e82 f1]
                refine r_iconst (v := 1) dX8_seeksWidest_124 (by decide) ?_
                refine r_iadd dX8_seeksWidest_125 ?_
                rw [Int32.sub_add_cancel]
                refine r_iastN dX8_seeksWidest_126 rfl (by omega) ?_
                refine r_iincN_1 dX8_seeksWidest_127 ?_
                refine r_goto 13 dX8_seeksWidest_130 (by decide) ?_
                refine RT.sub (lv' := [some (.ref 74), some (.int (nI (e + 1))), none]) (by simp [lsub]) ?_
                exact fin (some x) h1 h1 (by rw [el]; exact if_neg hg) f1 FM.rf rfl rfl (rwn f1)
        · skip
          refine r_iload_1 dX8_seeksWidest_13 ?_
          refine r_aload_0 dX8_seeksWidest_14 ?_
          refine r_getI dX8_seeksWidest_15 fl_X8_232 rfl ?_
          rw [k1]
          refine r_icmpN_ge 133 dX8_seeksWidest_18 (by decide) (by omega) (by omega) (fun c_18 => by omega) (fun c_18 => ?_)
          refine r_aload_0 dX8_seeksWidest_21 ?_
          refine r_getR (a := 81) dX8_seeksWidest_22 fl_X8_34 rfl rfl ?_
          refine r_iload_1 dX8_seeksWidest_25 ?_
          refine r_ialdN dX8_seeksWidest_26 rfl (by omega) ?_
          rw [kk]
          refine r_iconst (v := 2) dX8_seeksWidest_27 (by decide) ?_
          refine r_icmp_eq 127 dX8_seeksWidest_28 (by decide) (fun c_28 => by exact absurd c_28 hk) (fun c_28 => ?_)
          refine r_aload_0 dX8_seeksWidest_31 ?_
          refine r_getI dX8_seeksWidest_32 fl_X8_235 rfl ?_
          rw [k3]
          refine r_iload_1 dX8_seeksWidest_35 ?_
          refine r_ishr dX8_seeksWidest_36 ?_
          refine r_iconst (v := 1) dX8_seeksWidest_37 (by decide) ?_
          refine r_iand dX8_seeksWidest_38 ?_
          rw [bit_eq _ (by omega), b2i_f hc]
          refine r_iconst (v := 1) dX8_seeksWidest_39 (by decide) ?_
          refine r_icmp_eq 127 dX8_seeksWidest_40 (by decide) (fun c_40 => by exact absurd c_40 (by decide)) (fun c_40 => ?_)
          refine r_aload_0 dX8_seeksWidest_43 ?_
          refine r_getR (a := 82) dX8_seeksWidest_44 fl_X8_37 rfl rfl ?_
          refine r_iload_1 dX8_seeksWidest_47 ?_
          refine r_ialdN dX8_seeksWidest_48 rfl (by omega) ?_
          rw [kr']
          refine r_iconst (v := 2) dX8_seeksWidest_49 (by decide) ?_
          refine r_icmp_ge 56 dX8_seeksWidest_50 (by decide) (fun c_50 => by exact absurd (by rw [fa_le, t2] at c_50; exact c_50) hr) (fun c_50 => ?_)
          refine r_goto 127 dX8_seeksWidest_53 (by decide) ?_
          refine r_iincN_1 dX8_seeksWidest_127 ?_
          refine r_goto 13 dX8_seeksWidest_130 (by decide) ?_
          refine RT.sub (lv' := [some (.ref 74), some (.int (nI (e + 1))), none]) (by simp [lsub]) ?_
          exact go b h (if_neg (fun q => hr q.2.1)) FM.rf h44 h46 rw_
set_option maxRecDepth 100000 in
set_option maxHeartbeats 4000000 in
theorem q_seek {h : PH} {t : NT} (tx : TxOK t) (r : RawM h t) (h44 : h.1 74 44 = -1) (h46 : h.1 74 46 = 100) : Con mX8_seeksWidest 7 [.ref 74] h (fun a h' => a = none ∧ (SolM h' t (solveS (snOf t)) ∧ h'.1 74 44 = -1 ∧ h'.1 74 46 = 100 ∧ RW h' (wdS t (NT.E t) 0 none) ∧ FM slS slG h h')) := by
  refine Con.mk (by decide) ?_
  show RT _ _ 0 [some (.ref 74), none, none] [] _ _
  refine r_aload_0 dX8_seeksWidest_0 ?_
  refine r_bipush (v := (-2)) dX8_seeksWidest_1 (by decide) ?_
  refine r_putI dX8_seeksWidest_3 fl_X8_452 rfl rfl rfl ?_
  refine r_aload_0 dX8_seeksWidest_6 ?_
  refine r_lconst (v := 0) dX8_seeksWidest_7 (by decide) ?_
  refine r_putL dX8_seeksWidest_8 fl_X8_455 rfl rfl rfl ?_
  refine r_iconst (v := nI 0) dX8_seeksWidest_11 (by decide) ?_
  refine r_istore_1 dX8_seeksWidest_12 ?_
  have f0 : FM slS slG h (pL (pI h 74 47 (-2)) 74 48 0) := fm_pW (FM.rf.pF (by unfold slG; omega)) (by unfold slG; omega)
  exact mwd_loop tx h (NT.E t) 0 none _ (by omega) (r.fm f0) (by rw [pL_fst]; exact (pI_ne 74 44 (Or.inr (by decide))).trans h44) (by rw [pL_fst]; exact (pI_ne 74 46 (Or.inr (by decide))).trans h46) ⟨by rw [pL_fst]; exact pI_eq, fun x q => by cases q⟩ f0

set_option maxRecDepth 100000 in
set_option maxHeartbeats 4000000 in
theorem o_widen {h : PH} (i : INV h) : Same2 mX7_widen 8 [.ref 0] mX8_widen 8 [.ref 74] h := by
  have i0 := i
  obtain ⟨n0, bs, tr, fl, wp, t, nm, ac, ms, i1, i2, i3, i4, i5, i6⟩ := i
  have hb := i3.e
  have f6 : ∀ {h1 : PH} {y : Int32}, PC h y h1 → h1.1 74 6 = nI (NT.J t) := fun p => by rw [(p.kM 74 (by omega)).1]; exact i6.1
  have pr : ∀ y, PC h y (clH h y) := fun y => Fr.rf
  by_cases hJ : 0 < NT.J t
  · obtain ⟨tx, nok, mok, sc, nac, acc, mec⟩ := (i3.k (clH_kC (x := 0))).2.2.2 hJ
    have nc : NetC (clH h 0) 15 t := sc.1
    refine ⟨.int (wE (wdS t (NT.E t) 0 none)), PC h 0, fun h1 h2 => SolM h2 t (solveS (snOf t)) ∧ h2.1 74 44 = -1 ∧ h2.1 74 46 = 100 ∧ FM slS slG (rfH h1 0) h2, ?_, fun h1 q => ?_, fun h1 h2 q z => inv_paper2 i1 i2 i3 i4 i5 (by decide) q z.2.2.2 (MX.fm2 ((i6.k q.kM).rf 0) z.1 z.2.1 z.2.2.1 z.2.2.2 hJ)⟩
    · refine Con.mk (by decide) ?_
      show RT _ _ 0 [some (.ref 0)] [] _ _
      refine r_aload_0 dX7_widen_0 ?_
      refine r_cV0 mX7_hasText dX7_widen_1 ml_X7_101 mo_X7_hasText rfl (k_hasText hb.1 i3.1) (by decide) ?_
      rw [b2i_t hJ]
      refine r_if_ne 13 dX7_widen_4 (by decide) (fun c_4 => ?_) (fun c_4 => by exact absurd c_4 (by decide))
      refine r_aload_0 dX7_widen_13 ?_
      refine r_cW0 mX7_allow dX7_widen_14 ml_X7_79 mo_X7_allow rfl (k_allow h) (by decide) ?_
      refine r_aload_0 dX7_widen_17 ?_
      refine r_cVQ0 mX7_bestToWiden dX7_widen_18 ml_X7_269 mo_X7_bestToWiden rfl (k_best tx.1 nc) (by decide) (fun h1 p1 => ?_)
      refine r_iret dX7_widen_21 rfl ?_
      exact ⟨rfl, p1⟩
    · obtain ⟨-, -, m44, m46, -, mm⟩ := (i6.k q.kM).rf 0
      obtain ⟨rwm, sm, nam, acm, mem⟩ := mm hJ
      refine Con.mk (by decide) ?_
      show RT _ _ 0 [some (.ref 74)] [] _ _
      refine r_aload_0 dX8_widen_0 ?_
      refine r_aload_0 dX8_widen_1 ?_
      refine r_getI dX8_widen_2 fl_X8_229 rfl ?_
      rw [f6 q]
      refine r_if_le 12 dX8_widen_5 (by decide) (fun c_5 => by exact absurd c_5 (nI_nle hJ (by omega))) (fun c_5 => ?_)
      refine r_iconst (v := 1) dX8_widen_8 (by decide) ?_
      refine r_goto 13 dX8_widen_9 (by decide) ?_
      refine r_cS1 mX8_unless dX8_widen_13 ml_X8_330 mo_X8_unless (q_unless _ _) (by decide) ?_
      rw [un1]
      refine r_cV1 mX8_isRefused dX8_widen_16 ml_X8_245 mo_X8_isRefused rfl (q_isRefused _ _) (by decide) ?_
      rw [b2i_f (by decide)]
      refine r_if_eq 24 dX8_widen_19 (by decide) (fun c_19 => ?_) (fun c_19 => by exact absurd rfl c_19)
      refine r_aload_0 dX8_widen_24 ?_
      refine r_cWQ0 mX8_seeksWidest dX8_widen_25 ml_X8_459 mo_X8_seeksWidest rfl (q_seek tx rwm m44 m46) (by decide) (fun h3 p3 => ?_)
      obtain ⟨s3, e3, e4, r3, f3⟩ := p3
      refine r_aload_0 dX8_widen_28 ?_
      refine r_getI dX8_widen_29 fl_X8_452 rfl ?_
      rw [r3.1]
      refine r_iret dX8_widen_32 rfl ?_
      exact ⟨rfl, s3, e3, e4, f3⟩
  · have hJ0 : NT.J t = 0 := by omega
    refine Same.to2 i0 ⟨.int (-1), 1, by decide, ?_, ?_⟩
    · refine Con.mk (by decide) ?_
      show RT _ _ 0 [some (.ref 0)] [] _ _
      refine r_aload_0 dX7_widen_0 ?_
      refine r_cV0 mX7_hasText dX7_widen_1 ml_X7_101 mo_X7_hasText rfl (k_hasText hb.1 i3.1) (by decide) ?_
      rw [b2i_f hJ]
      refine r_if_ne 13 dX7_widen_4 (by decide) (fun c_4 => by exact absurd rfl c_4) (fun c_4 => ?_)
      refine r_aload_0 dX7_widen_7 ?_
      refine r_iconst (v := 1) dX7_widen_8 (by decide) ?_
      refine r_cV1 mX7_refuse dX7_widen_9 ml_X7_65 mo_X7_refuse rfl (k_refuse h 1) (by decide) ?_
      refine r_iret dX7_widen_12 rfl ?_
      exact ⟨rfl, rfl⟩
    · refine Con.mk (by decide) ?_
      show RT _ _ 0 [some (.ref 74)] [] _ _
      refine r_aload_0 dX8_widen_0 ?_
      refine r_aload_0 dX8_widen_1 ?_
      refine r_getI dX8_widen_2 fl_X8_229 rfl ?_
      rw [f6 (pr 1), hJ0]
      refine r_if_le 12 dX8_widen_5 (by decide) (fun c_5 => ?_) (fun c_5 => by exact absurd (show nI 0 ≤ 0 by decide) c_5)
      refine r_iconst (v := 0) dX8_widen_12 (by decide) ?_
      refine r_cS1 mX8_unless dX8_widen_13 ml_X8_330 mo_X8_unless (q_unless _ _) (by decide) ?_
      rw [un0]
      refine r_cV1 mX8_isRefused dX8_widen_16 ml_X8_245 mo_X8_isRefused rfl (q_isRefused _ _) (by decide) ?_
      rw [b2i_t (by decide)]
      refine r_if_eq 24 dX8_widen_19 (by decide) (fun c_19 => by exact absurd c_19 (by decide)) (fun c_19 => ?_)
      refine r_iconst (v := (-1)) dX8_widen_22 (by decide) ?_
      refine r_iret dX8_widen_23 rfl ?_
      exact ⟨rfl, rfl⟩

set_option maxRecDepth 100000 in
set_option maxHeartbeats 4000000 in
theorem o_widened {h : PH} (i : INV h) : Same2 mX7_widened 8 [.ref 0] mX8_widened 8 [.ref 74] h := by
  have i0 := i
  obtain ⟨n0, bs, tr, fl, wp, t, nm, ac, ms, i1, i2, i3, i4, i5, i6⟩ := i
  have hb := i3.e
  have f6 : ∀ {h1 : PH} {y : Int32}, PC h y h1 → h1.1 74 6 = nI (NT.J t) := fun p => by rw [(p.kM 74 (by omega)).1]; exact i6.1
  have pr : ∀ y, PC h y (clH h y) := fun y => Fr.rf
  by_cases hJ : 0 < NT.J t
  · obtain ⟨tx, nok, mok, sc, nac, acc, mec⟩ := i3.2.2.2 hJ
    have nc : NetC h 15 t := sc.1
    have hE14 := tx.1.2.2.1
    have wi := wdS_i (t := t) (NT.E t) 0 none (by omega) (fun x q => by cases q)
    cases hw : (wdS t (NT.E t) 0 none) with
    | none =>
      refine ⟨.long (-9223372036854775808), PC h 5, fun h1 h2 => SolM h2 t (solveS (snOf t)) ∧ h2.1 74 44 = -1 ∧ h2.1 74 46 = 100 ∧ FM slS slG (rfH h1 5) h2, ?_, fun h1 q => ?_, fun h1 h2 q z => inv_paper2 i1 i2 i3 i4 i5 (by decide) q z.2.2.2 (MX.fm2 ((i6.k q.kM).rf 5) z.1 z.2.1 z.2.2.1 z.2.2.2 hJ)⟩
      · refine Con.mk (by decide) ?_
        show RT _ _ 0 [some (.ref 0), none] [] _ _
        refine r_aload_0 dX7_widened_0 ?_
        refine r_cV0 mX7_hasText dX7_widened_1 ml_X7_101 mo_X7_hasText rfl (k_hasText hb.1 i3.1) (by decide) ?_
        rw [b2i_t hJ]
        refine r_if_ne 13 dX7_widened_4 (by decide) (fun c_4 => ?_) (fun c_4 => by exact absurd c_4 (by decide))
        refine r_aload_0 dX7_widened_13 ?_
        refine r_cVQ0 mX7_bestToWiden dX7_widened_14 ml_X7_269 mo_X7_bestToWiden rfl (k_best tx.1 nc) (by decide) (fun h1 p1 => ?_)
        rw [hw]
        refine r_istore_1 dX7_widened_17 ?_
        refine r_iload_1 dX7_widened_18 ?_
        refine r_bipush (v := (-2)) dX7_widened_19 (by decide) ?_
        refine r_icmp_ne 30 dX7_widened_21 (by decide) (fun c_21 => by exact absurd rfl c_21) (fun c_21 => ?_)
        refine r_aload_0 dX7_widened_24 ?_
        refine r_iconst (v := 5) dX7_widened_25 (by decide) ?_
        refine r_cV1 mX7_refuseLong dX7_widened_26 ml_X7_171 mo_X7_refuseLong rfl (k_refuseL h1 5) (by decide) ?_
        refine r_lret dX7_widened_29 rfl ?_
        exact ⟨rfl, PC.of p1 5⟩
      · obtain ⟨-, -, m44, m46, -, mm⟩ := (i6.k q.kM).rf 0
        obtain ⟨rwm, sm, nam, acm, mem⟩ := mm hJ
        refine Con.mk (by decide) ?_
        show RT _ _ 0 [some (.ref 74)] [] _ _
        refine r_aload_0 dX8_widened_0 ?_
        refine r_aload_0 dX8_widened_1 ?_
        refine r_getI dX8_widened_2 fl_X8_229 rfl ?_
        rw [f6 q]
        refine r_if_le 12 dX8_widened_5 (by decide) (fun c_5 => by exact absurd c_5 (nI_nle hJ (by omega))) (fun c_5 => ?_)
        refine r_iconst (v := 1) dX8_widened_8 (by decide) ?_
        refine r_goto 13 dX8_widened_9 (by decide) ?_
        refine r_cS1 mX8_unless dX8_widened_13 ml_X8_330 mo_X8_unless (q_unless _ _) (by decide) ?_
        rw [un1]
        refine r_cV1 mX8_isRefused dX8_widened_16 ml_X8_245 mo_X8_isRefused rfl (q_isRefused _ _) (by decide) ?_
        rw [b2i_f (by decide)]
        refine r_if_eq 26 dX8_widened_19 (by decide) (fun c_19 => ?_) (fun c_19 => by exact absurd rfl c_19)
        refine r_aload_0 dX8_widened_26 ?_
        refine r_cWQ0 mX8_seeksWidest dX8_widened_27 ml_X8_459 mo_X8_seeksWidest rfl (q_seek tx rwm m44 m46) (by decide) (fun h3 p3 => ?_)
        obtain ⟨s3, e3, e4, r3, f3⟩ := p3
        rw [hw] at r3
        refine r_aload_0 dX8_widened_30 ?_
        refine r_getI dX8_widened_31 fl_X8_452 rfl ?_
        rw [r3.1]
        refine r_bipush (v := (-2)) dX8_widened_34 (by decide) ?_
        refine r_icmp_ne 47 dX8_widened_36 (by decide) (fun c_36 => by exact absurd rfl c_36) (fun c_36 => ?_)
        refine r_aload_0 dX8_widened_39 ?_
        refine r_iconst (v := 5) dX8_widened_40 (by decide) ?_
        refine r_cV1 mX8_nothing dX8_widened_41 ml_X8_407 mo_X8_nothing rfl (q_nothing h3 5) (by decide) ?_
        refine r_goto 51 dX8_widened_44 (by decide) ?_
        refine r_lret dX8_widened_51 rfl ?_
        exact ⟨rfl, s3.f2 5 (by omega), (pI_ne 74 44 (Or.inr (by decide))).trans e3, (pI_ne 74 46 (Or.inr (by decide))).trans e4, fm_say f3 5⟩
    | some x =>
      have hx := wi x hw
      have np : ∀ j, j < 10 → ¬ pap (15 + j) := fun j hj q => by have := q.1; omega
      refine ⟨.long x.2, PC h 0, fun h1 h2 => SolM h2 t (solveS (snOf t)) ∧ h2.1 74 44 = -1 ∧ h2.1 74 46 = 100 ∧ FM slS slG (rfH h1 0) h2, ?_, fun h1 q => ?_, fun h1 h2 q z => inv_paper2 i1 i2 i3 i4 i5 (by decide) q z.2.2.2 (MX.fm2 ((i6.k q.kM).rf 0) z.1 z.2.1 z.2.2.1 z.2.2.2 hJ)⟩
      · refine Con.mk (by decide) ?_
        show RT _ _ 0 [some (.ref 0), none] [] _ _
        refine r_aload_0 dX7_widened_0 ?_
        refine r_cV0 mX7_hasText dX7_widened_1 ml_X7_101 mo_X7_hasText rfl (k_hasText hb.1 i3.1) (by decide) ?_
        rw [b2i_t hJ]
        refine r_if_ne 13 dX7_widened_4 (by decide) (fun c_4 => ?_) (fun c_4 => by exact absurd c_4 (by decide))
        refine r_aload_0 dX7_widened_13 ?_
        refine r_cVQ0 mX7_bestToWiden dX7_widened_14 ml_X7_269 mo_X7_bestToWiden rfl (k_best tx.1 nc) (by decide) (fun h1 p1 => ?_)
        rw [hw]
        refine r_istore_1 dX7_widened_17 ?_
        refine r_iload_1 dX7_widened_18 ?_
        refine r_bipush (v := (-2)) dX7_widened_19 (by decide) ?_
        refine r_icmp_ne 30 dX7_widened_21 (by decide) (fun c_21 => ?_) (fun c_21 => by exact absurd c_21 (nI_nm2 (by have := hx.1; omega)))
        refine r_aload_0 dX7_widened_30 ?_
        refine r_cW0 mX7_allow dX7_widened_31 ml_X7_79 mo_X7_allow rfl (k_allow h1) (by decide) ?_
        refine r_aload_0 dX7_widened_34 ?_
        refine r_iload_1 dX7_widened_35 ?_
        refine r_cVQ1 mX7_leastIfWidened dX7_widened_36 ml_X7_272 mo_X7_leastIfWidened rfl (k_lifW (h := clH h1 0) tx.1 ((nc.fr p1 np).fr (S := fun y => y = 0) (((Fr.rf (S := fun y => y = 0)).pI rfl).pI rfl) (fun j hj q => by omega)) hx.1 hx.2.1.1 hx.2.1.2) (by decide) (fun h2 p2 => ?_)
        refine r_lret dX7_widened_39 rfl ?_
        exact ⟨by rw [hx.2.2], (PC.of p1 0).tr p2⟩
      · obtain ⟨-, -, m44, m46, -, mm⟩ := (i6.k q.kM).rf 0
        obtain ⟨rwm, sm, nam, acm, mem⟩ := mm hJ
        refine Con.mk (by decide) ?_
        show RT _ _ 0 [some (.ref 74)] [] _ _
        refine r_aload_0 dX8_widened_0 ?_
        refine r_aload_0 dX8_widened_1 ?_
        refine r_getI dX8_widened_2 fl_X8_229 rfl ?_
        rw [f6 q]
        refine r_if_le 12 dX8_widened_5 (by decide) (fun c_5 => by exact absurd c_5 (nI_nle hJ (by omega))) (fun c_5 => ?_)
        refine r_iconst (v := 1) dX8_widened_8 (by decide) ?_
        refine r_goto 13 dX8_widened_9 (by decide) ?_
        refine r_cS1 mX8_unless dX8_widened_13 ml_X8_330 mo_X8_unless (q_unless _ _) (by decide) ?_
        rw [un1]
        refine r_cV1 mX8_isRefused dX8_widened_16 ml_X8_245 mo_X8_isRefused rfl (q_isRefused _ _) (by decide) ?_
        rw [b2i_f (by decide)]
        refine r_if_eq 26 dX8_widened_19 (by decide) (fun c_19 => ?_) (fun c_19 => by exact absurd rfl c_19)
        refine r_aload_0 dX8_widened_26 ?_
        refine r_cWQ0 mX8_seeksWidest dX8_widened_27 ml_X8_459 mo_X8_seeksWidest rfl (q_seek tx rwm m44 m46) (by decide) (fun h3 p3 => ?_)
        obtain ⟨s3, e3, e4, r3, f3⟩ := p3
        rw [hw] at r3
        refine r_aload_0 dX8_widened_30 ?_
        refine r_getI dX8_widened_31 fl_X8_452 rfl ?_
        rw [r3.1]
        refine r_bipush (v := (-2)) dX8_widened_34 (by decide) ?_
        refine r_icmp_ne 47 dX8_widened_36 (by decide) (fun c_36 => ?_) (fun c_36 => by exact absurd c_36 (nI_nm2 (by have := hx.1; omega)))
        refine r_aload_0 dX8_widened_47 ?_
        refine r_getL dX8_widened_48 fl_X8_455 rfl ?_
        rw [(r3.2 x rfl).1]
        refine r_lret dX8_widened_51 rfl ?_
        exact ⟨rfl, s3, e3, e4, f3⟩
  · have hJ0 : NT.J t = 0 := by omega
    refine Same.to2 i0 ⟨.long (-9223372036854775808), 1, by decide, ?_, ?_⟩
    · refine Con.mk (by decide) ?_
      show RT _ _ 0 [some (.ref 0), none] [] _ _
      refine r_aload_0 dX7_widened_0 ?_
      refine r_cV0 mX7_hasText dX7_widened_1 ml_X7_101 mo_X7_hasText rfl (k_hasText hb.1 i3.1) (by decide) ?_
      rw [b2i_f hJ]
      refine r_if_ne 13 dX7_widened_4 (by decide) (fun c_4 => by exact absurd rfl c_4) (fun c_4 => ?_)
      refine r_aload_0 dX7_widened_7 ?_
      refine r_iconst (v := 1) dX7_widened_8 (by decide) ?_
      refine r_cV1 mX7_refuseLong dX7_widened_9 ml_X7_171 mo_X7_refuseLong rfl (k_refuseL h 1) (by decide) ?_
      refine r_lret dX7_widened_12 rfl ?_
      exact ⟨rfl, rfl⟩
    · refine Con.mk (by decide) ?_
      show RT _ _ 0 [some (.ref 74)] [] _ _
      refine r_aload_0 dX8_widened_0 ?_
      refine r_aload_0 dX8_widened_1 ?_
      refine r_getI dX8_widened_2 fl_X8_229 rfl ?_
      rw [f6 (pr 1), hJ0]
      refine r_if_le 12 dX8_widened_5 (by decide) (fun c_5 => ?_) (fun c_5 => by exact absurd (show nI 0 ≤ 0 by decide) c_5)
      refine r_iconst (v := 0) dX8_widened_12 (by decide) ?_
      refine r_cS1 mX8_unless dX8_widened_13 ml_X8_330 mo_X8_unless (q_unless _ _) (by decide) ?_
      rw [un0]
      refine r_cV1 mX8_isRefused dX8_widened_16 ml_X8_245 mo_X8_isRefused rfl (q_isRefused _ _) (by decide) ?_
      rw [b2i_t (by decide)]
      refine r_if_eq 26 dX8_widened_19 (by decide) (fun c_19 => by exact absurd c_19 (by decide)) (fun c_19 => ?_)
      refine r_ldc2 dX8_widened_22 ks_X8_102 ?_
      refine r_lret dX8_widened_25 rfl ?_
      exact ⟨rfl, rfl⟩

