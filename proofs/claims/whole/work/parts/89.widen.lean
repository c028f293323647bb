/-! ===== both: widen, widened ===== -/
def widT (t : NT) (e : Nat) : NT := setRs t (fupd (NT.rs t) e (NT.rs t e - 1))
def lsN (t : NT) : Int64 := lpS t (trS (snOf t) (solveS (snOf t)).1) (hdS (snOf t) (solveS (snOf t)).1)
abbrev WB : Type := Option (Nat × Int64)
def wE (b : WB) : Int32 := match b with | none => -2 | some x => nI x.1
def wV (b : WB) : Int64 := match b with | none => (-9223372036854775808) | some x => x.2
def wd1 (v : Int64) (e : Nat) (b : WB) : WB := if wV b < v then some (e, v) else b
def wdS (t : NT) : Nat → Nat → WB → WB
  | 0, _, b => b
  | m + 1, e, b => wdS t m (e + 1) (if (¬ NT.kd t e = 2 ∧ 2 ≤ (NT.rs t e).toInt ∧ bt (NT.cl t) e = false) then wd1 (lsN (widT t e)) e b else b)
def WI (t : NT) (b : WB) : Prop := ∀ x, b = some x → x.1 < NT.E t ∧ (¬ NT.kd t x.1 = 2 ∧ 2 ≤ (NT.rs t x.1).toInt) ∧ x.2 = lsN (widT t x.1)
theorem wdS_i {t : NT} : ∀ (m e : Nat) (b : WB), e + m = NT.E t → WI t b → WI t (wdS t m e b) := by
  intro m
  induction m with
  | zero => intro e b _ h; exact h
  | succ m ih =>
    intro e b he h
    refine ih _ _ (by omega) ?_
    split
    · next q =>
      unfold wd1
      split
      · intro x hx; cases hx; exact ⟨by omega, ⟨q.1, q.2.1⟩, rfl⟩
      · exact h
    · exact h
theorem NetC.rsw {h : PH} {o : Nat} {t : NT} (c : NetC h o t) {j : Nat} (y : Int32) : NetC (pI h (o + 7) j y) o (setRs t (fupd (NT.rs t) j y)) := by
  have z : (pI h (o + 7) j y).1 o = h.1 o := funext fun k => pI_ne o k (Or.inl (by omega))
  have g : ∀ i, i ≠ 7 → (pI h (o + 7) j y).1 (o + i) = h.1 (o + i) := fun i hi => funext fun k => pI_ne _ k (Or.inl (by omega))
  obtain ⟨c1, c2, c3, c4, c5, c6⟩ := c
  refine ⟨by rw [z]; exact c1, by rw [z]; exact c2, by rw [z]; exact c3, by rw [z]; exact c4, fun k hk => by rw [g 2 (by decide), g 3 (by decide)]; exact c5 k hk, fun e he => ?_⟩
  obtain ⟨m1, m2, m3, m4, m5, m6⟩ := c6 e he
  refine ⟨by rw [g 4 (by decide)]; exact m1, by rw [g 5 (by decide)]; exact m2, by rw [g 6 (by decide)]; exact m3, fun q => ?_, by rw [g 8 (by decide)]; exact m5, fun k hk => by rw [g 9 (by decide)]; exact m6 k hk⟩
  show (pI h (o + 7) j y).1 (o + 7) e = fupd (NT.rs t) j y e
  by_cases z : e = j
  · rw [z, fupd_s]; exact pI_eq
  · rw [fupd_n z, pI_ne _ e (Or.inr z)]; exact m4 q
theorem okT.rsw {t : NT} (ok : okT t) {j : Nat} {y : Int32} (hy : 1 ≤ y.toInt ∧ y.toInt ≤ 20) : okT (setRs t (fupd (NT.rs t) j y)) := by
  refine ⟨ok.1, ok.2.1, ok.2.2.1, fun e he => ?_, ok.2.2.2.2.1, ok.2.2.2.2.2⟩
  obtain ⟨a1, a2, a3, a4, a5, a6⟩ := ok.2.2.2.1 e he
  refine ⟨a1, a2, a3, a4, fun q => ?_, a6⟩
  show 1 ≤ (fupd (NT.rs t) j y e).toInt ∧ (fupd (NT.rs t) j y e).toInt ≤ 20
  by_cases z : e = j
  · rw [z, fupd_s]; exact hy
  · rw [fupd_n z]; exact a5 q
theorem okT.wid {t : NT} (ok : okT t) {e : Nat} (he : e < NT.E t) (hk : ¬ NT.kd t e = 2) (hr : 2 ≤ (NT.rs t e).toInt) : okT (widT t e) := by
  have b := (ok.2.2.2.1 e he).2.2.2.2.1 hk
  refine ok.rsw ?_
  obtain ⟨n, hn, q⟩ := ofB (d := NT.rs t e) (by omega)
  rw [q, nI_toInt hn] at hr b
  rw [q, show nI n - 1 = nI (n - 1) from (by decide +kernel : ∀ n, n < 21 → 1 ≤ n → nI n - 1 = nI (n - 1)) n (by omega) (by omega), nI_toInt (by omega)]; omega
theorem RawM.rsw {h : PH} {t : NT} (r : RawM h t) (tx : TxOK t) (h44 : h.1 74 44 = -1) (h46 : h.1 74 46 = 100) {j : Nat} (y : Int32) : NetM (pI h 82 j y) (setRs t (fupd (NT.rs t) j y)) := by
  have nc := r.net tx h44 h46
  have g : ∀ i, i ≠ 82 → (pI h 82 j y).1 i = h.1 i := fun i hi => funext fun k => pI_ne _ k (Or.inl hi)
  obtain ⟨c1, c2, c3, c4, c5, c6, c7⟩ := nc
  have g74 := g 74 (by decide)
  refine ⟨by rw [g74]; exact c1, by rw [g74]; exact c2, by rw [g 76 (by decide)]; exact c3, by rw [g74]; exact c4, fun k h1 h2 => ?_, fun k hk => by rw [g 77 (by decide)]; exact c6 k hk, fun e he => ?_⟩
  · have e : drE (pI h 82 j y) k = drE h k := by unfold drE; rw [g 76 (by decide), g74]
    rw [e]; exact c5 k h1 h2
  · obtain ⟨m1, m2, m3, m4, m5, m6⟩ := c7 e he
    refine ⟨by rw [g 79 (by decide)]; exact m1, by rw [g 80 (by decide)]; exact m2, by rw [g 81 (by decide)]; exact m3, fun q => ?_, by rw [g 84 (by decide)]; exact m5, fun k hk => by rw [g 83 (by decide)]; exact m6 k hk⟩
    show (pI h 82 j y).1 82 e = fupd (NT.rs t) j y e
    by_cases z : e = j
    · rw [z, fupd_s]; exact pI_eq
    · rw [fupd_n z, pI_ne _ e (Or.inr z)]; exact m4 q
theorem fm_rs {h h1 : PH} {e : Nat} {y v : Int32} (f : FM slS slG (pI h 82 e y) h1) (hv : h.1 82 e = v) : FM slS slG h (pI h1 82 e v) := by
  refine ⟨fun k hk => ?_, fun z h0 h2 => ⟨?_, (f.2.1 z h0 h2).2⟩, fun q => absurd (by unfold slG; omega) q⟩
  · rw [pI_ne 74 k (Or.inl (by decide)), f.1 k hk, pI_ne 74 k (Or.inl (by decide))]
  · funext j
    by_cases q : z = 82
    · subst q
      by_cases q2 : j = e
      · rw [q2, pI_eq, hv]
      · rw [pI_ne 82 j (Or.inr q2), (f.2.1 82 h0 h2).1, pI_ne 82 j (Or.inr q2)]
    · rw [pI_ne z j (Or.inl q), (f.2.1 z h0 h2).1, pI_ne z j (Or.inl q)]
theorem min_lt {v : Int64} (h : v ≠ (-9223372036854775808)) : (-9223372036854775808) < v := by
  have := v.le_toInt
  have e0 : (-9223372036854775808 : Int64).toInt = -9223372036854775808 := by decide +kernel
  rw [fa_lt64, e0]
  have : v.toInt ≠ -9223372036854775808 := fun q => h (by rw [fa_eq64, e0]; exact q)
  omega
theorem min_nlt {v : Int64} : ¬ v < (-9223372036854775808) := by
  have := v.le_toInt
  rw [fa_lt64, show (-9223372036854775808 : Int64).toInt = -9223372036854775808 by decide +kernel]
  omega
set_option maxRecDepth 100000 in
set_option maxHeartbeats 4000000 in
theorem k_lifW {h : PH} {t : NT} (ok : okT t) (nc : NetC h 15 t) {e : Nat} (he : e < NT.E t) (hk : ¬ NT.kd t e = 2) (hr : 2 ≤ (NT.rs t e).toInt) : Con mX7_leastIfWidened 6 [.ref 0, .int (nI e)] h (fun a h' => a = some (.long (lsN (widT t e))) ∧ Fr pap h h') := by
  have hE14 := ok.2.2.1
  have okw := ok.wid he hk hr
  refine Con.mk (by decide) ?_
  show RT _ _ 0 [some (.ref 0), some (.int (nI e))] [] _ _
  refine r_aload_0 dX7_leastIfWidened_0 ?_
  refine r_getR (a := 42) dX7_leastIfWidened_1 fl_X7_41 rfl rfl ?_
  refine r_aload_0 dX7_leastIfWidened_4 ?_
  refine r_getR (a := 15) dX7_leastIfWidened_5 fl_X7_37 rfl rfl ?_
  refine r_cWQ1 mX2_copyFrom dX7_leastIfWidened_8 ml_X7_83 mo_X2_copyFrom rfl (k_copy_42_15 h) (by decide) (fun h2 p2 => ?_)
  have nc2 : NetC h2 42 t := p2.net ok nc
  have ers : h2.1 49 e = NT.rs t e := (nc2.2.2.2.2.2 e he).2.2.2.1 hk
  refine r_aload_0 dX7_leastIfWidened_11 ?_
  refine r_getR (a := 42) dX7_leastIfWidened_12 fl_X7_41 rfl rfl ?_
  refine r_getR (a := 49) dX7_leastIfWidened_15 fl_X7_151 rfl rfl ?_
  refine r_iload_1 dX7_leastIfWidened_18 ?_
  refine r_dup2ir dX7_leastIfWidened_19 ?_
  refine r_ialdN dX7_leastIfWidened_20 rfl (by omega) ?_
  rw [ers]
  refine r_iconst (v := 1) dX7_leastIfWidened_21 (by decide) ?_
  refine r_isub dX7_leastIfWidened_22 ?_
  refine r_iastN dX7_leastIfWidened_23 rfl (by omega) ?_
  refine r_aload_0 dX7_leastIfWidened_24 ?_
  refine r_getR (a := 41) dX7_leastIfWidened_25 fl_X7_38 rfl rfl ?_
  refine r_cWQ0 mX6_solve dX7_leastIfWidened_28 ml_X7_248 mo_X6_solve rfl (k_solve isW41 okw (nc2.rsw (NT.rs t e - 1))) (by decide) (fun h3 p3 => ?_)
  obtain ⟨s3, f3⟩ := p3
  refine r_aload_0 dX7_leastIfWidened_31 ?_
  refine r_getR (a := 41) dX7_leastIfWidened_32 fl_X7_38 rfl rfl ?_
  refine r_cV0 mX6_leastPressure dX7_leastIfWidened_35 ml_X7_332 mo_X6_leastPressure rfl (k_least isW41 okw _ s3.1 s3.2.2.2.2.2.1 _ (hd_at okw _ s3.2.2.2.2.2.2.2.2)) (by decide) ?_
  refine r_lret dX7_leastIfWidened_38 rfl ?_
  exact ⟨rfl, ((p2.2.2.2.2.wk (fun _ q => cp_pap q)).pI ⟨by omega, by omega⟩).tr (f3.wk (fun _ q => rg_pap q))⟩

set_option maxRecDepth 100000 in
set_option maxHeartbeats 4000000 in
theorem wid_loop {t : NT} (ok : okT t) (h0 : PH) : ∀ (m e : Nat) (b : WB) (h : PH), e + m = NT.E t → NetC h 15 t → Fr pap h0 h → RT mX7_bestToWiden 7 10 [some (.ref 0), some (.int (wE b)), some (.long (wV b)), none, some (.int (nI e)), none, none] [] h (fun a h' => a = some (.int (wE (wdS t m e b))) ∧ Fr pap h0 h') := by
  have hE14 := ok.2.2.1
  have np : ∀ j, j < 10 → ¬ pap (15 + j) := fun j hj q => by have := q.1; omega
  have t1 : (1 : Int32).toInt = 1 := by decide +kernel
  intro m
  induction m with
  | zero =>
    intro e b h he nc fr
    have k1 : h.1 15 1 = nI (NT.E t) := nc.2.1
    refine r_iload_4 dX7_bestToWiden_10 ?_
    refine r_aload_0 dX7_bestToWiden_12 ?_
    refine r_getR (a := 15) dX7_bestToWiden_13 fl_X7_37 rfl rfl ?_
    refine r_getI dX7_bestToWiden_16 fl_X7_105 rfl ?_
    rw [k1]
    refine r_icmpN_ge 96 dX7_bestToWiden_19 (by decide) (by omega) (by omega) (fun c_19 => ?_) (fun c_19 => by omega)
    refine r_iload_1 dX7_bestToWiden_96 ?_
    refine r_iret dX7_bestToWiden_97 rfl ?_
    exact ⟨rfl, fr⟩
  | succ m ih =>
    intro e b h he nc fr
    have k1 : h.1 15 1 = nI (NT.E t) := nc.2.1
    have k3 : h.1 15 3 = NT.cl t := nc.2.2.2.1
    obtain ⟨-, -, kk, kr, -, -⟩ := nc.2.2.2.2.2 e (by omega)
    have go : ∀ b' h1, (if (¬ NT.kd t e = 2 ∧ 2 ≤ (NT.rs t e).toInt ∧ bt (NT.cl t) e = false) then wd1 (lsN (widT t e)) e b else b) = b' → NetC h1 15 t → Fr pap h0 h1 → RT mX7_bestToWiden 7 10 [some (.ref 0), some (.int (wE b')), some (.long (wV b')), none, some (.int (nI (e + 1))), none, none] [] h1 (fun a h' => a = some (.int (wE (wdS t (m + 1) e b))) ∧ Fr pap h0 h') := fun b' h1 eb nc1 fr1 => by
      show RT _ _ _ _ _ _ (fun a h' => a = some (.int (wE (wdS t m (e + 1) (if (¬ NT.kd t e = 2 ∧ 2 ≤ (NT.rs t e).toInt ∧ bt (NT.cl t) e = false) then wd1 (lsN (widT t e)) e b else b)))) ∧ Fr pap h0 h')
      rw [eb]
      exact ih (e + 1) b' h1 (by omega) nc1 fr1
    by_cases hk : NT.kd t e = 2
    · skip
      refine r_iload_4 dX7_bestToWiden_10 ?_
      refine r_aload_0 dX7_bestToWiden_12 ?_
      refine r_getR (a := 15) dX7_bestToWiden_13 fl_X7_37 rfl rfl ?_
      refine r_getI dX7_bestToWiden_16 fl_X7_105 rfl ?_
      rw [k1]
      refine r_icmpN_ge 96 dX7_bestToWiden_19 (by decide) (by omega) (by omega) (fun c_19 => by omega) (fun c_19 => ?_)
      refine r_aload_0 dX7_bestToWiden_22 ?_
      refine r_getR (a := 15) dX7_bestToWiden_23 fl_X7_37 rfl rfl ?_
      refine r_getR (a := 21) dX7_bestToWiden_26 fl_X7_148 rfl rfl ?_
      refine r_iload_4 dX7_bestToWiden_29 ?_
      refine r_ialdN dX7_bestToWiden_31 rfl (by omega) ?_
      rw [show h.1 21 e = NT.kd t e from kk]
      refine r_iconst (v := 2) dX7_bestToWiden_32 (by decide) ?_
      refine r_icmp_eq 90 dX7_bestToWiden_33 (by decide) (fun c_33 => ?_) (fun c_33 => by exact absurd hk c_33)
      refine r_iincN_4 dX7_bestToWiden_90 ?_
      refine r_goto 10 dX7_bestToWiden_93 (by decide) ?_
      refine RT.sub (lv' := [some (.ref 0), some (.int (wE b)), some (.long (wV b)), none, some (.int (nI (e + 1))), none, none]) (by simp [lsub]) ?_
      exact go b h (if_neg (fun q => q.1 hk)) nc fr
    · by_cases hr : 2 ≤ (NT.rs t e).toInt
      · by_cases hc : bt (NT.cl t) e = true
        · skip
          refine r_iload_4 dX7_bestToWiden_10 ?_
          refine r_aload_0 dX7_bestToWiden_12 ?_
          refine r_getR (a := 15) dX7_bestToWiden_13 fl_X7_37 rfl rfl ?_
          refine r_getI dX7_bestToWiden_16 fl_X7_105 rfl ?_
          rw [k1]
          refine r_icmpN_ge 96 dX7_bestToWiden_19 (by decide) (by omega) (by omega) (fun c_19 => by omega) (fun c_19 => ?_)
          refine r_aload_0 dX7_bestToWiden_22 ?_
          refine r_getR (a := 15) dX7_bestToWiden_23 fl_X7_37 rfl rfl ?_
          refine r_getR (a := 21) dX7_bestToWiden_26 fl_X7_148 rfl rfl ?_
          refine r_iload_4 dX7_bestToWiden_29 ?_
          refine r_ialdN dX7_bestToWiden_31 rfl (by omega) ?_
          rw [show h.1 21 e = NT.kd t e from kk]
          refine r_iconst (v := 2) dX7_bestToWiden_32 (by decide) ?_
          refine r_icmp_eq 90 dX7_bestToWiden_33 (by decide) (fun c_33 => by exact absurd c_33 hk) (fun c_33 => ?_)
          refine r_aload_0 dX7_bestToWiden_36 ?_
          refine r_getR (a := 15) dX7_bestToWiden_37 fl_X7_37 rfl rfl ?_
          refine r_getR (a := 22) dX7_bestToWiden_40 fl_X7_151 rfl rfl ?_
          refine r_iload_4 dX7_bestToWiden_43 ?_
          refine r_ialdN dX7_bestToWiden_45 rfl (by omega) ?_
          rw [show h.1 22 e = NT.rs t e from kr hk]
          refine r_iconst (v := 1) dX7_bestToWiden_46 (by decide) ?_
          refine r_icmp_le 90 dX7_bestToWiden_47 (by decide) (fun c_47 => by exact absurd c_47 (by rw [fa_le, t1]; omega)) (fun c_47 => ?_)
          refine r_aload_0 dX7_bestToWiden_50 ?_
          refine r_getR (a := 15) dX7_bestToWiden_51 fl_X7_37 rfl rfl ?_
          refine r_getI dX7_bestToWiden_54 fl_X7_154 rfl ?_
          rw [k3]
          refine r_iload_4 dX7_bestToWiden_57 ?_
          refine r_cS2 mX7_bit dX7_bestToWiden_59 ml_X7_157 mo_X7_bit (k_bit _ _ (j := e) (by omega)) (by decide) ?_
          rw [b2i_t hc]
          refine r_iconst (v := 1) dX7_bestToWiden_62 (by decide) ?_
          refine r_icmp_ne 69 dX7_bestToWiden_63 (by decide) (fun c_63 => by exact absurd rfl c_63) (fun c_63 => ?_)
          refine r_goto 90 dX7_bestToWiden_66 (by decide) ?_
          refine r_iincN_4 dX7_bestToWiden_90 ?_
          refine r_goto 10 dX7_bestToWiden_93 (by decide) ?_
          refine RT.sub (lv' := [some (.ref 0), some (.int (wE b)), some (.long (wV b)), none, some (.int (nI (e + 1))), none, none]) (by simp [lsub]) ?_
          exact go b h (if_neg (fun q => absurd hc (by rw [q.2.2]; decide))) nc fr
        · have hc' := Bool.eq_false_iff.mpr hc
          by_cases hg : wV b < lsN (widT t e)
          · skip
            refine r_iload_4 dX7_bestToWiden_10 ?_
            refine r_aload_0 dX7_bestToWiden_12 ?_
            refine r_getR (a := 15) dX7_bestToWiden_13 fl_X7_37 rfl rfl ?_
            refine r_getI dX7_bestToWiden_16 fl_X7_105 rfl ?_
            rw [k1]
            refine r_icmpN_ge 96 dX7_bestToWiden_19 (by decide) (by omega) (by omega) (fun c_19 => by omega) (fun c_19 => ?_)
            refine r_aload_0 dX7_bestToWiden_22 ?_
            refine r_getR (a := 15) dX7_bestToWiden_23 fl_X7_37 rfl rfl ?_
            refine r_getR (a := 21) dX7_bestToWiden_26 fl_X7_148 rfl rfl ?_
            refine r_iload_4 dX7_bestToWiden_29 ?_
            refine r_ialdN dX7_bestToWiden_31 rfl (by omega) ?_
            rw [show h.1 21 e = NT.kd t e from kk]
            refine r_iconst (v := 2) dX7_bestToWiden_32 (by decide) ?_
            refine r_icmp_eq 90 dX7_bestToWiden_33 (by decide) (fun c_33 => by exact absurd c_33 hk) (fun c_33 => ?_)
            refine r_aload_0 dX7_bestToWiden_36 ?_
            refine r_getR (a := 15) dX7_bestToWiden_37 fl_X7_37 rfl rfl ?_
            refine r_getR (a := 22) dX7_bestToWiden_40 fl_X7_151 rfl rfl ?_
            refine r_iload_4 dX7_bestToWiden_43 ?_
            refine r_ialdN dX7_bestToWiden_45 rfl (by omega) ?_
            rw [show h.1 22 e = NT.rs t e from kr hk]
            refine r_iconst (v := 1) dX7_bestToWiden_46 (by decide) ?_
            refine r_icmp_le 90 dX7_bestToWiden_47 (by decide) (fun c_47 => by exact absurd c_47 (by rw [fa_le, t1]; omega)) (fun c_47 => ?_)
            refine r_aload_0 dX7_bestToWiden_50 ?_
            refine r_getR (a := 15) dX7_bestToWiden_51 fl_X7_37 rfl rfl ?_
            refine r_getI dX7_bestToWiden_54 fl_X7_154 rfl ?_
            rw [k3]
            refine r_iload_4 dX7_bestToWiden_57 ?_
            refine r_cS2 mX7_bit dX7_bestToWiden_59 ml_X7_157 mo_X7_bit (k_bit _ _ (j := e) (by omega)) (by decide) ?_
            rw [b2i_f hc]
            refine r_iconst (v := 1) dX7_bestToWiden_62 (by decide) ?_
            refine r_icmp_ne 69 dX7_bestToWiden_63 (by decide) (fun c_63 => ?_) (fun c_63 => by exact absurd c_63 (by decide))
            refine r_aload_0 dX7_bestToWiden_69 ?_
            refine r_iload_4 dX7_bestToWiden_70 ?_
            refine r_cVQ1 mX7_leastIfWidened dX7_bestToWiden_72 ml_X7_272 mo_X7_leastIfWidened rfl (k_lifW ok nc (by omega) hk hr) (by decide) (fun h1 p1 => ?_)
            have nc1 : NetC h1 15 t := nc.fr p1 np
            refine r_lstore_5 dX7_bestToWiden_75 ?_
            refine r_lload_5 dX7_bestToWiden_77 ?_
            refine r_lload_2 dX7_bestToWiden_79 ?_
            refine r_lif_le 90 dX7_bestToWiden_80 dX7_bestToWiden_81 (by decide) (fun c_80 => by exact absurd hg (Int64.not_lt.mpr c_80)) (fun c_80 => ?_)
            refine r_lload_5 dX7_bestToWiden_84 ?_
            refine r_lstore_2 dX7_bestToWiden_86 ?_
            refine r_iload_4 dX7_bestToWiden_87 ?_
            refine r_istore_1 dX7_bestToWiden_89 ?_
            refine r_iincN_4 dX7_bestToWiden_90 ?_
            refine r_goto 10 dX7_bestToWiden_93 (by decide) ?_
            refine RT.sub (lv' := [some (.ref 0), some (.int (wE (some (e, lsN (widT t e))))), some (.long (wV (some (e, lsN (widT t e))))), none, some (.int (nI (e + 1))), none, none]) (by simp [lsub, wE, wV]) ?_
            exact go _ h1 ((if_pos ⟨hk, hr, hc'⟩).trans (if_pos hg)) nc1 (fr.tr p1)
          · skip
            refine r_iload_4 dX7_bestToWiden_10 ?_
            refine r_aload_0 dX7_bestToWiden_12 ?_
            refine r_getR (a := 15) dX7_bestToWiden_13 fl_X7_37 rfl rfl ?_
            refine r_getI dX7_bestToWiden_16 fl_X7_105 rfl ?_
            rw [k1]
            refine r_icmpN_ge 96 dX7_bestToWiden_19 (by decide) (by omega) (by omega) (fun c_19 => by omega) (fun c_19 => ?_)
            refine r_aload_0 dX7_bestToWiden_22 ?_
            refine r_getR (a := 15) dX7_bestToWiden_23 fl_X7_37 rfl rfl ?_
            refine r_getR (a := 21) dX7_bestToWiden_26 fl_X7_148 rfl rfl ?_
            refine r_iload_4 dX7_bestToWiden_29 ?_
            refine r_ialdN dX7_bestToWiden_31 rfl (by omega) ?_
            rw [show h.1 21 e = NT.kd t e from kk]
            refine r_iconst (v := 2) dX7_bestToWiden_32 (by decide) ?_
            refine r_icmp_eq 90 dX7_bestToWiden_33 (by decide) (fun c_33 => by exact absurd c_33 hk) (fun c_33 => ?_)
            refine r_aload_0 dX7_bestToWiden_36 ?_
            refine r_getR (a := 15) dX7_bestToWiden_37 fl_X7_37 rfl rfl ?_
            refine r_getR (a := 22) dX7_bestToWiden_40 fl_X7_151 rfl rfl ?_
            refine r_iload_4 dX7_bestToWiden_43 ?_
            refine r_ialdN dX7_bestToWiden_45 rfl (by omega) ?_
            rw [show h.1 22 e = NT.rs t e from kr hk]
            refine r_iconst (v := 1) dX7_bestToWiden_46 (by decide) ?_
            refine r_icmp_le 90 dX7_bestToWiden_47 (by decide) (fun c_47 => by exact absurd c_47 (by rw [fa_le, t1]; omega)) (fun c_47 => ?_)
            refine r_aload_0 dX7_bestToWiden_50 ?_
            refine r_getR (a := 15) dX7_bestToWiden_51 fl_X7_37 rfl rfl ?_
            refine r_getI dX7_bestToWiden_54 fl_X7_154 rfl ?_
            rw [k3]
            refine r_iload_4 dX7_bestToWiden_57 ?_
            refine r_cS2 mX7_bit dX7_bestToWiden_59 ml_X7_157 mo_X7_bit (k_bit _ _ (j := e) (by omega)) (by decide) ?_
            rw [b2i_f hc]
            refine r_iconst (v := 1) dX7_bestToWiden_62 (by decide) ?_
            refine r_icmp_ne 69 dX7_bestToWiden_63 (by decide) (fun c_63 => ?_) (fun c_63 => by exact absurd c_63 (by decide))
            refine r_aload_0 dX7_bestToWiden_69 ?_
            refine r_iload_4 dX7_bestToWiden_70 ?_
            refine r_cVQ1 mX7_leastIfWidened dX7_bestToWiden_72 ml_X7_272 mo_X7_leastIfWidened rfl (k_lifW ok nc (by omega) hk hr) (by decide) (fun h1 p1 => ?_)
            have nc1 : NetC h1 15 t := nc.fr p1 np
            refine r_lstore_5 dX7_bestToWiden_75 ?_
            refine r_lload_5 dX7_bestToWiden_77 ?_
            refine r_lload_2 dX7_bestToWiden_79 ?_
            refine r_lif_le 90 dX7_bestToWiden_80 dX7_bestToWiden_81 (by decide) (fun c_80 => ?_) (fun c_80 => by exact absurd (Int64.not_lt.mp hg) c_80)
            refine r_iincN_4 dX7_bestToWiden_90 ?_
            refine r_goto 10 dX7_bestToWiden_93 (by decide) ?_
            refine RT.sub (lv' := [some (.ref 0), some (.int (wE b)), some (.long (wV b)), none, some (.int (nI (e + 1))), none, none]) (by simp [lsub]) ?_
            exact go _ h1 ((if_pos ⟨hk, hr, hc'⟩).trans (if_neg hg)) nc1 (fr.tr p1)
      · skip
        refine r_iload_4 dX7_bestToWiden_10 ?_
        refine r_aload_0 dX7_bestToWiden_12 ?_
        refine r_getR (a := 15) dX7_bestToWiden_13 fl_X7_37 rfl rfl ?_
        refine r_getI dX7_bestToWiden_16 fl_X7_105 rfl ?_
        rw [k1]
        refine r_icmpN_ge 96 dX7_bestToWiden_19 (by decide) (by omega) (by omega) (fun c_19 => by omega) (fun c_19 => ?_)
        refine r_aload_0 dX7_bestToWiden_22 ?_
        refine r_getR (a := 15) dX7_bestToWiden_23 fl_X7_37 rfl rfl ?_
        refine r_getR (a := 21) dX7_bestToWiden_26 fl_X7_148 rfl rfl ?_
        refine r_iload_4 dX7_bestToWiden_29 ?_
        refine r_ialdN dX7_bestToWiden_31 rfl (by omega) ?_
        rw [show h.1 21 e = NT.kd t e from kk]
        refine r_iconst (v := 2) dX7_bestToWiden_32 (by decide) ?_
        refine r_icmp_eq 90 dX7_bestToWiden_33 (by decide) (fun c_33 => by exact absurd c_33 hk) (fun c_33 => ?_)
        refine r_aload_0 dX7_bestToWiden_36 ?_
        refine r_getR (a := 15) dX7_bestToWiden_37 fl_X7_37 rfl rfl ?_
        refine r_getR (a := 22) dX7_bestToWiden_40 fl_X7_151 rfl rfl ?_
        refine r_iload_4 dX7_bestToWiden_43 ?_
        refine r_ialdN dX7_bestToWiden_45 rfl (by omega) ?_
        rw [show h.1 22 e = NT.rs t e from kr hk]
        refine r_iconst (v := 1) dX7_bestToWiden_46 (by decide) ?_
        refine r_icmp_le 90 dX7_bestToWiden_47 (by decide) (fun c_47 => ?_) (fun c_47 => by exact absurd (by rw [fa_le, t1]; omega) c_47)
        refine r_iincN_4 dX7_bestToWiden_90 ?_
        refine r_goto 10 dX7_bestToWiden_93 (by decide) ?_
        refine RT.sub (lv' := [some (.ref 0), some (.int (wE b)), some (.long (wV b)), none, some (.int (nI (e + 1))), none, none]) (by simp [lsub]) ?_
        exact go b h (if_neg (fun q => hr q.2.1)) nc fr
set_option maxRecDepth 100000 in
set_option maxHeartbeats 4000000 in
theorem k_best {h : PH} {t : NT} (ok : okT t) (nc : NetC h 15 t) : Con mX7_bestToWiden 7 [.ref 0] h (fun a h' => a = some (.int (wE (wdS t (NT.E t) 0 none))) ∧ Fr pap h h') := by
  refine Con.mk (by decide) ?_
  show RT _ _ 0 [some (.ref 0), none, none, none, none, none, none] [] _ _
  refine r_bipush (v := (-2)) dX7_bestToWiden_0 (by decide) ?_
  refine r_istore_1 dX7_bestToWiden_2 ?_
  refine r_ldc2 dX7_bestToWiden_3 ks_X7_254 ?_
  refine r_lstore_2 dX7_bestToWiden_6 ?_
  refine r_iconst (v := nI 0) dX7_bestToWiden_7 (by decide) ?_
  refine r_istore_4 dX7_bestToWiden_8 ?_
  exact wid_loop ok h (NT.E t) 0 none h (by omega) nc Fr.rf

