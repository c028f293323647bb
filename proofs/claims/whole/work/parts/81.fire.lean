/-! ===== both: fire ===== -/
def lpN (t : NT) : Int64 := lpA t (trS (snOf t) (solveS (snOf t)).1) (hdS (snOf t) (solveS (snOf t)).1)
def fiS (t : NT) (j : Nat) (p : Int32) : Nat → Int32
  | 0 => -2
  | m + 1 => if p.toInt64 ≤ lpN (moreT t j (nI m)) then nI m else fiS t j p m
theorem lpA_dry {t : NT} {s : TS} {hd : FL} {p : Int32} : (p.toInt64 ≤ lpA t s hd ∧ dryS (NT.J t) s = 0) ↔ p.toInt64 ≤ lpA t s hd := by
  refine ⟨fun q => q.1, fun q => ⟨q, ?_⟩⟩
  by_cases e : dryS (NT.J t) s = 0
  · exact e
  · exfalso
    unfold lpA at q
    rw [if_neg e, fa_le64, toInt64_toInt, show (-9223372036854775808 : Int64).toInt = -9223372036854775808 by decide +kernel] at q
    have := p.le_toInt
    omega
theorem lp_t {t : NT} {p : Int32} (hp : p.toInt64 ≤ lpN t) : b2i (p.toInt64 ≤ lpA t (trS (snOf t) (solveS (snOf t)).1) (hdS (snOf t) (solveS (snOf t)).1) ∧ dryS (NT.J t) (trS (snOf t) (solveS (snOf t)).1) = 0) = 1 := by rw [b2i_c lpA_dry]; exact b2i_t hp
theorem lp_f {t : NT} {p : Int32} (hp : ¬ p.toInt64 ≤ lpN t) : b2i (p.toInt64 ≤ lpA t (trS (snOf t) (solveS (snOf t)).1) (hdS (snOf t) (solveS (snOf t)).1) ∧ dryS (NT.J t) (trS (snOf t) (solveS (snOf t)).1) = 0) = 0 := by rw [b2i_c lpA_dry]; exact b2i_f hp
theorem nI_nm2 {n : Nat} (h : n < 2 ^ 31) : ¬ nI n = -2 := by
  intro q
  rw [fa_eq, nI_toInt h, show (-2 : Int32).toInt = -2 by decide +kernel] at q; omega
theorem d0m : nI 0 + -1 = -1 := by decide +kernel
set_option maxRecDepth 100000 in
set_option maxHeartbeats 4000000 in
theorem k_pAsked (h : PH) (p : Int32) : ConF mX7_isPressureAsked 1 [.int p] h (some (.int (b2i ((-30000 : Int32) ≤ p ∧ p ≤ 90000)))) h := by
  by_cases hp : (-30000 : Int32) ≤ p ∧ p ≤ 90000
  · rw [b2i_t hp]
    refine Con.mk (by decide) ?_
    show RT _ _ 0 [some (.int p)] [] _ _
    refine r_iload_0 dX7_isPressureAsked_0 ?_
    refine r_sipush (v := (-30000)) dX7_isPressureAsked_1 (by decide) ?_
    refine r_icmp_lt 18 dX7_isPressureAsked_4 (by decide) (fun c_4 => by exact absurd c_4 (nlt_of_ge hp.1)) (fun c_4 => ?_)
    refine r_iload_0 dX7_isPressureAsked_7 ?_
    refine r_ldcw dX7_isPressureAsked_8 ks_X7_331 ?_
    refine r_icmp_gt 18 dX7_isPressureAsked_11 (by decide) (fun c_11 => by exact absurd c_11 (nlt_of_ge hp.2)) (fun c_11 => ?_)
    refine r_iconst (v := 1) dX7_isPressureAsked_14 (by decide) ?_
    refine r_goto 19 dX7_isPressureAsked_15 (by decide) ?_
    refine r_zret dX7_isPressureAsked_19 rfl rfl ?_
    exact ⟨rfl, rfl⟩
  · rw [b2i_f hp]
    refine Con.mk (by decide) ?_
    show RT _ _ 0 [some (.int p)] [] _ _
    refine r_iload_0 dX7_isPressureAsked_0 ?_
    refine r_sipush (v := (-30000)) dX7_isPressureAsked_1 (by decide) ?_
    refine r_icmp_lt 18 dX7_isPressureAsked_4 (by decide) (fun c_4 => ?_) (fun c_4 => ?_)
    · refine r_iconst (v := 0) dX7_isPressureAsked_18 (by decide) ?_
      refine r_zret dX7_isPressureAsked_19 rfl rfl ?_
      exact ⟨rfl, rfl⟩
    · refine r_iload_0 dX7_isPressureAsked_7 ?_
      refine r_ldcw dX7_isPressureAsked_8 ks_X7_331 ?_
      refine r_icmp_gt 18 dX7_isPressureAsked_11 (by decide) (fun c_11 => ?_) (fun c_11 => ?_)
      · refine r_iconst (v := 0) dX7_isPressureAsked_18 (by decide) ?_
        refine r_zret dX7_isPressureAsked_19 rfl rfl ?_
        exact ⟨rfl, rfl⟩
      · exact absurd ⟨ge_of_nlt c_4, ge_of_nlt c_11⟩ hp

set_option maxRecDepth 100000 in
set_option maxHeartbeats 4000000 in
theorem fire_loop {t : NT} (tx : TxOK t) {j : Nat} (hj : j < NT.J t) (p : Int32) (h0 : PH) : ∀ (m : Nat) (h : PH), m ≤ 60 → NetC h 15 t → Fr pap h0 h → RT mX7_fire 7 34 [some (.ref 0), some (.int (nI j)), some (.int p), some (.int (nI m))] [] h (fun a h' => a = some (.int (fiS t j p (m + 1))) ∧ Fr pap h0 h') := by
  have np : ∀ j, j < 10 → ¬ pap (15 + j) := fun j hj q => by have := q.1; omega
  intro m
  induction m with
  | zero =>
    intro h hm nc fr
    by_cases hp : p.toInt64 ≤ (lpN (moreT t j (nI (0))))
    · rw [show fiS t j p (0 + 1) = nI (0) from if_pos hp]
      refine r_iload_3 dX7_fire_34 ?_
      refine r_if_lt 65 dX7_fire_35 (by decide) (fun c_35 => by exact absurd c_35 (nI_pos (by omega))) (fun c_35 => ?_)
      refine r_aload_0 dX7_fire_38 ?_
      refine r_iload_1 dX7_fire_39 ?_
      refine r_iload_3 dX7_fire_40 ?_
      refine r_cWQ2 mX7_solveWithMore dX7_fire_41 ml_X7_265 mo_X7_solveWithMore rfl (k_more tx nc hj (n := 0) hm) (by decide) (fun h1 p1 => ?_)
      obtain ⟨s1, f1⟩ := p1
      have nc1 : NetC h1 15 t := nc.fr f1 np
      refine r_aload_0 dX7_fire_44 ?_
      refine r_getR (a := 41) dX7_fire_45 fl_X7_38 rfl rfl ?_
      refine r_cV0 mX6_leastPressureOfAll dX7_fire_48 ml_X7_251 mo_X6_leastPressureOfAll rfl (k_leastAll isW41 (tx.more j hm) _ s1.1 s1.2.2.2.2.2.1 _ (hd_at (tx.more j hm) _ s1.2.2.2.2.2.2.2.2)) (by decide) ?_
      refine r_iload_2 dX7_fire_51 ?_
      refine r_i2l dX7_fire_52 ?_
      refine r_lif_lt 59 dX7_fire_53 dX7_fire_54 (by decide) (fun c_53 => by exact absurd c_53 (Int64.not_lt.mpr hp)) (fun c_53 => ?_)
      refine r_iload_3 dX7_fire_57 ?_
      refine r_iret dX7_fire_58 rfl ?_
      exact ⟨rfl, fr.tr f1⟩
    · rw [show fiS t j p (0 + 1) = fiS t j p (0) from if_neg hp]
      refine r_iload_3 dX7_fire_34 ?_
      refine r_if_lt 65 dX7_fire_35 (by decide) (fun c_35 => by exact absurd c_35 (nI_pos (by omega))) (fun c_35 => ?_)
      refine r_aload_0 dX7_fire_38 ?_
      refine r_iload_1 dX7_fire_39 ?_
      refine r_iload_3 dX7_fire_40 ?_
      refine r_cWQ2 mX7_solveWithMore dX7_fire_41 ml_X7_265 mo_X7_solveWithMore rfl (k_more tx nc hj (n := 0) hm) (by decide) (fun h1 p1 => ?_)
      obtain ⟨s1, f1⟩ := p1
      have nc1 : NetC h1 15 t := nc.fr f1 np
      refine r_aload_0 dX7_fire_44 ?_
      refine r_getR (a := 41) dX7_fire_45 fl_X7_38 rfl rfl ?_
      refine r_cV0 mX6_leastPressureOfAll dX7_fire_48 ml_X7_251 mo_X6_leastPressureOfAll rfl (k_leastAll isW41 (tx.more j hm) _ s1.1 s1.2.2.2.2.2.1 _ (hd_at (tx.more j hm) _ s1.2.2.2.2.2.2.2.2)) (by decide) ?_
      refine r_iload_2 dX7_fire_51 ?_
      refine r_i2l dX7_fire_52 ?_
      refine r_lif_lt 59 dX7_fire_53 dX7_fire_54 (by decide) (fun c_53 => ?_) (fun c_53 => by exact absurd (Int64.not_le.mp hp) c_53)
      refine r_iinc_3 (v := (-1)) dX7_fire_59 (by decide) ?_
      rw [d0m]
      refine r_goto 34 dX7_fire_62 (by decide) ?_
      refine r_iload_3 dX7_fire_34 ?_
      refine r_if_lt 65 dX7_fire_35 (by decide) (fun c_35 => ?_) (fun c_35 => by exact absurd (by decide) c_35)
      refine r_bipush (v := (-2)) dX7_fire_65 (by decide) ?_
      refine r_iret dX7_fire_67 rfl ?_
      exact ⟨rfl, fr.tr f1⟩
  | succ m ih =>
    intro h hm nc fr
    by_cases hp : p.toInt64 ≤ (lpN (moreT t j (nI (m + 1))))
    · rw [show fiS t j p (m + 1 + 1) = nI (m + 1) from if_pos hp]
      refine r_iload_3 dX7_fire_34 ?_
      refine r_if_lt 65 dX7_fire_35 (by decide) (fun c_35 => by exact absurd c_35 (nI_pos (by omega))) (fun c_35 => ?_)
      refine r_aload_0 dX7_fire_38 ?_
      refine r_iload_1 dX7_fire_39 ?_
      refine r_iload_3 dX7_fire_40 ?_
      refine r_cWQ2 mX7_solveWithMore dX7_fire_41 ml_X7_265 mo_X7_solveWithMore rfl (k_more tx nc hj (n := m + 1) hm) (by decide) (fun h1 p1 => ?_)
      obtain ⟨s1, f1⟩ := p1
      have nc1 : NetC h1 15 t := nc.fr f1 np
      refine r_aload_0 dX7_fire_44 ?_
      refine r_getR (a := 41) dX7_fire_45 fl_X7_38 rfl rfl ?_
      refine r_cV0 mX6_leastPressureOfAll dX7_fire_48 ml_X7_251 mo_X6_leastPressureOfAll rfl (k_leastAll isW41 (tx.more j hm) _ s1.1 s1.2.2.2.2.2.1 _ (hd_at (tx.more j hm) _ s1.2.2.2.2.2.2.2.2)) (by decide) ?_
      refine r_iload_2 dX7_fire_51 ?_
      refine r_i2l dX7_fire_52 ?_
      refine r_lif_lt 59 dX7_fire_53 dX7_fire_54 (by decide) (fun c_53 => by exact absurd c_53 (Int64.not_lt.mpr hp)) (fun c_53 => ?_)
      refine r_iload_3 dX7_fire_57 ?_
      refine r_iret dX7_fire_58 rfl ?_
      exact ⟨rfl, fr.tr f1⟩
    · rw [show fiS t j p (m + 1 + 1) = fiS t j p (m + 1) from if_neg hp]
      refine r_iload_3 dX7_fire_34 ?_
      refine r_if_lt 65 dX7_fire_35 (by decide) (fun c_35 => by exact absurd c_35 (nI_pos (by omega))) (fun c_35 => ?_)
      refine r_aload_0 dX7_fire_38 ?_
      refine r_iload_1 dX7_fire_39 ?_
      refine r_iload_3 dX7_fire_40 ?_
      refine r_cWQ2 mX7_solveWithMore dX7_fire_41 ml_X7_265 mo_X7_solveWithMore rfl (k_more tx nc hj (n := m + 1) hm) (by decide) (fun h1 p1 => ?_)
      obtain ⟨s1, f1⟩ := p1
      have nc1 : NetC h1 15 t := nc.fr f1 np
      refine r_aload_0 dX7_fire_44 ?_
      refine r_getR (a := 41) dX7_fire_45 fl_X7_38 rfl rfl ?_
      refine r_cV0 mX6_leastPressureOfAll dX7_fire_48 ml_X7_251 mo_X6_leastPressureOfAll rfl (k_leastAll isW41 (tx.more j hm) _ s1.1 s1.2.2.2.2.2.1 _ (hd_at (tx.more j hm) _ s1.2.2.2.2.2.2.2.2)) (by decide) ?_
      refine r_iload_2 dX7_fire_51 ?_
      refine r_i2l dX7_fire_52 ?_
      refine r_lif_lt 59 dX7_fire_53 dX7_fire_54 (by decide) (fun c_53 => ?_) (fun c_53 => by exact absurd (Int64.not_le.mp hp) c_53)
      refine r_idecN_3 dX7_fire_59 ?_
      refine r_goto 34 dX7_fire_62 (by decide) ?_
      exact ih h1 (by omega) nc1 (fr.tr f1)
set_option maxRecDepth 100000 in
set_option maxHeartbeats 4000000 in
theorem mfire_end {t : NT} (tx : TxOK t) {h0 h : PH} (r : RawM h t) (h46 : h.1 74 46 = 100) (fr : FM slS slG h0 h) (a b c : Option Value) (v : Int32) : RT mX8_fire 8 75 [some (.ref 74), a, b, some (.int v), c] [] h (fun a h' => a = some (.int v) ∧ (SolM h' t (solveS (snOf t)) ∧ h'.1 74 44 = -1 ∧ h'.1 74 46 = 100 ∧ FM slS slG h0 h')) := by
  refine r_aload_0 dX8_fire_75 ?_
  refine r_cWQ0 mX8_solvesAgain dX8_fire_76 ml_X8_435 mo_X8_solvesAgain rfl (q_again tx r h46) (by decide) (fun h1 p1 => ?_)
  obtain ⟨s1, e1, e2, f1⟩ := p1
  refine r_iload_3 dX8_fire_79 ?_
  refine r_iret dX8_fire_80 rfl ?_
  exact ⟨rfl, s1, e1, e2, fr.tr f1⟩

set_option maxRecDepth 100000 in
set_option maxHeartbeats 4000000 in
theorem mfire_loop {t : NT} (tx : TxOK t) {j : Nat} (hj : j < NT.J t) (p : Int32) (h0 : PH) : ∀ (m : Nat) (h : PH), m ≤ 60 → RawM h t → h.1 74 46 = 100 → FM slS slG h0 h → RT mX8_fire 8 35 [some (.ref 74), some (.int (nI j)), some (.int p), some (.int (-2)), some (.int (nI m))] [] h (fun a h' => a = some (.int (fiS t j p (m + 1))) ∧ (SolM h' t (solveS (snOf t)) ∧ h'.1 74 44 = -1 ∧ h'.1 74 46 = 100 ∧ FM slS slG h0 h')) := by
  intro m
  induction m with
  | zero =>
    intro h hm r h46 fr
    by_cases hp : p.toInt64 ≤ (lpN (moreT t j (nI (0))))
    · rw [show fiS t j p (0 + 1) = nI (0) from if_pos hp]
      refine r_iload_4 dX8_fire_35 ?_
      refine r_if_lt 75 dX8_fire_37 (by decide) (fun c_37 => by exact absurd c_37 (nI_pos (by omega))) (fun c_37 => ?_)
      refine r_iload_3 dX8_fire_40 ?_
      refine r_bipush (v := (-2)) dX8_fire_41 (by decide) ?_
      refine r_icmp_ne 75 dX8_fire_43 (by decide) (fun c_43 => by exact absurd rfl c_43) (fun c_43 => ?_)
      refine r_aload_0 dX8_fire_46 ?_
      refine r_iload_1 dX8_fire_47 ?_
      refine r_iload_4 dX8_fire_48 ?_
      refine r_cWQ2 mX8_solvesWith dX8_fire_50 ml_X8_428 mo_X8_solvesWith rfl (q_more tx r h46 hj (n := 0) hm) (by decide) (fun h1 p1 => ?_)
      obtain ⟨s1, e1, f1⟩ := p1
      have r1 := r.fm f1
      refine r_aload_0 dX8_fire_53 ?_
      refine r_iload_2 dX8_fire_54 ?_
      refine r_cV1 mX8_isEnough dX8_fire_55 ml_X8_432 mo_X8_isEnough rfl (q_isEnough (tx.more j hm) _ s1.1 s1.2.2.2.2.2.1 _ (hd_at (tx.more j hm) _ s1.2.2.2.2.2.2.2.2) tx.2.1 p) (by decide) ?_
      rw [lp_t hp]
      refine r_if_eq 66 dX8_fire_58 (by decide) (fun c_58 => by exact absurd c_58 (by decide)) (fun c_58 => ?_)
      refine r_iload_4 dX8_fire_61 ?_
      refine r_goto 68 dX8_fire_63 (by decide) ?_
      refine r_istore_3 dX8_fire_68 ?_
      refine r_iinc_4 (v := (-1)) dX8_fire_69 (by decide) ?_
      rw [d0m]
      refine r_goto 35 dX8_fire_72 (by decide) ?_
      refine r_iload_4 dX8_fire_35 ?_
      refine r_if_lt 75 dX8_fire_37 (by decide) (fun c_37 => ?_) (fun c_37 => by exact absurd (by decide) c_37)
      exact mfire_end tx r1 e1 (fr.tr f1) _ _ _ _
    · rw [show fiS t j p (0 + 1) = fiS t j p (0) from if_neg hp]
      refine r_iload_4 dX8_fire_35 ?_
      refine r_if_lt 75 dX8_fire_37 (by decide) (fun c_37 => by exact absurd c_37 (nI_pos (by omega))) (fun c_37 => ?_)
      refine r_iload_3 dX8_fire_40 ?_
      refine r_bipush (v := (-2)) dX8_fire_41 (by decide) ?_
      refine r_icmp_ne 75 dX8_fire_43 (by decide) (fun c_43 => by exact absurd rfl c_43) (fun c_43 => ?_)
      refine r_aload_0 dX8_fire_46 ?_
      refine r_iload_1 dX8_fire_47 ?_
      refine r_iload_4 dX8_fire_48 ?_
      refine r_cWQ2 mX8_solvesWith dX8_fire_50 ml_X8_428 mo_X8_solvesWith rfl (q_more tx r h46 hj (n := 0) hm) (by decide) (fun h1 p1 => ?_)
      obtain ⟨s1, e1, f1⟩ := p1
      have r1 := r.fm f1
      refine r_aload_0 dX8_fire_53 ?_
      refine r_iload_2 dX8_fire_54 ?_
      refine r_cV1 mX8_isEnough dX8_fire_55 ml_X8_432 mo_X8_isEnough rfl (q_isEnough (tx.more j hm) _ s1.1 s1.2.2.2.2.2.1 _ (hd_at (tx.more j hm) _ s1.2.2.2.2.2.2.2.2) tx.2.1 p) (by decide) ?_
      rw [lp_f hp]
      refine r_if_eq 66 dX8_fire_58 (by decide) (fun c_58 => ?_) (fun c_58 => by exact absurd rfl c_58)
      refine r_bipush (v := (-2)) dX8_fire_66 (by decide) ?_
      refine r_istore_3 dX8_fire_68 ?_
      refine r_iinc_4 (v := (-1)) dX8_fire_69 (by decide) ?_
      rw [d0m]
      refine r_goto 35 dX8_fire_72 (by decide) ?_
      refine r_iload_4 dX8_fire_35 ?_
      refine r_if_lt 75 dX8_fire_37 (by decide) (fun c_37 => ?_) (fun c_37 => by exact absurd (by decide) c_37)
      exact mfire_end tx r1 e1 (fr.tr f1) _ _ _ _
  | succ m ih =>
    intro h hm r h46 fr
    by_cases hp : p.toInt64 ≤ (lpN (moreT t j (nI (m + 1))))
    · rw [show fiS t j p (m + 1 + 1) = nI (m + 1) from if_pos hp]
      refine r_iload_4 dX8_fire_35 ?_
      refine r_if_lt 75 dX8_fire_37 (by decide) (fun c_37 => by exact absurd c_37 (nI_pos (by omega))) (fun c_37 => ?_)
      refine r_iload_3 dX8_fire_40 ?_
      refine r_bipush (v := (-2)) dX8_fire_41 (by decide) ?_
      refine r_icmp_ne 75 dX8_fire_43 (by decide) (fun c_43 => by exact absurd rfl c_43) (fun c_43 => ?_)
      refine r_aload_0 dX8_fire_46 ?_
      refine r_iload_1 dX8_fire_47 ?_
      refine r_iload_4 dX8_fire_48 ?_
      refine r_cWQ2 mX8_solvesWith dX8_fire_50 ml_X8_428 mo_X8_solvesWith rfl (q_more tx r h46 hj (n := m + 1) hm) (by decide) (fun h1 p1 => ?_)
      obtain ⟨s1, e1, f1⟩ := p1
      have r1 := r.fm f1
      refine r_aload_0 dX8_fire_53 ?_
      refine r_iload_2 dX8_fire_54 ?_
      refine r_cV1 mX8_isEnough dX8_fire_55 ml_X8_432 mo_X8_isEnough rfl (q_isEnough (tx.more j hm) _ s1.1 s1.2.2.2.2.2.1 _ (hd_at (tx.more j hm) _ s1.2.2.2.2.2.2.2.2) tx.2.1 p) (by decide) ?_
      rw [lp_t hp]
      refine r_if_eq 66 dX8_fire_58 (by decide) (fun c_58 => by exact absurd c_58 (by decide)) (fun c_58 => ?_)
      refine r_iload_4 dX8_fire_61 ?_
      refine r_goto 68 dX8_fire_63 (by decide) ?_
      refine r_istore_3 dX8_fire_68 ?_
      refine r_idecN_4 dX8_fire_69 ?_
      refine r_goto 35 dX8_fire_72 (by decide) ?_
      refine r_iload_4 dX8_fire_35 ?_
      refine r_if_lt 75 dX8_fire_37 (by decide) (fun c_37 => by exact absurd c_37 (nI_pos (by omega))) (fun c_37 => ?_)
      refine r_iload_3 dX8_fire_40 ?_
      refine r_bipush (v := (-2)) dX8_fire_41 (by decide) ?_
      refine r_icmp_ne 75 dX8_fire_43 (by decide) (fun c_43 => ?_) (fun c_43 => by exact absurd c_43 (nI_nm2 (by omega)))
      exact mfire_end tx r1 e1 (fr.tr f1) _ _ _ _
    · rw [show fiS t j p (m + 1 + 1) = fiS t j p (m + 1) from if_neg hp]
      refine r_iload_4 dX8_fire_35 ?_
      refine r_if_lt 75 dX8_fire_37 (by decide) (fun c_37 => by exact absurd c_37 (nI_pos (by omega))) (fun c_37 => ?_)
      refine r_iload_3 dX8_fire_40 ?_
      refine r_bipush (v := (-2)) dX8_fire_41 (by decide) ?_
      refine r_icmp_ne 75 dX8_fire_43 (by decide) (fun c_43 => by exact absurd rfl c_43) (fun c_43 => ?_)
      refine r_aload_0 dX8_fire_46 ?_
      refine r_iload_1 dX8_fire_47 ?_
      refine r_iload_4 dX8_fire_48 ?_
      refine r_cWQ2 mX8_solvesWith dX8_fire_50 ml_X8_428 mo_X8_solvesWith rfl (q_more tx r h46 hj (n := m + 1) hm) (by decide) (fun h1 p1 => ?_)
      obtain ⟨s1, e1, f1⟩ := p1
      have r1 := r.fm f1
      refine r_aload_0 dX8_fire_53 ?_
      refine r_iload_2 dX8_fire_54 ?_
      refine r_cV1 mX8_isEnough dX8_fire_55 ml_X8_432 mo_X8_isEnough rfl (q_isEnough (tx.more j hm) _ s1.1 s1.2.2.2.2.2.1 _ (hd_at (tx.more j hm) _ s1.2.2.2.2.2.2.2.2) tx.2.1 p) (by decide) ?_
      rw [lp_f hp]
      refine r_if_eq 66 dX8_fire_58 (by decide) (fun c_58 => ?_) (fun c_58 => by exact absurd rfl c_58)
      refine r_bipush (v := (-2)) dX8_fire_66 (by decide) ?_
      refine r_istore_3 dX8_fire_68 ?_
      refine r_idecN_4 dX8_fire_69 ?_
      refine r_goto 35 dX8_fire_72 (by decide) ?_
      exact ih h1 (by omega) r1 e1 (fr.tr f1)
set_option maxRecDepth 100000 in
set_option maxHeartbeats 4000000 in
theorem o_fire {h : PH} (i : INV h) (x p : Int32) : Same2 mX7_fire 7 [.ref 0, .int x, .int p] mX8_fire 8 [.ref 74, .int x, .int p] h := by
  have i0 := i
  obtain ⟨n0, bs, tr, fl, wp, t, nm, ac, ms, i1, i2, i3, i4, i5, i6⟩ := i
  have hb := i3.e
  have f6 : ∀ {h1 : PH} {y : Int32}, PC h y h1 → h1.1 74 6 = nI (NT.J t) := fun p => by rw [(p.kM 74 (by omega)).1]; exact i6.1
  have pr : ∀ y, PC h y (clH h y) := fun y => Fr.rf
  by_cases hx : x ≠ 0 ∧ 0 ≤ x ∧ x < nI (NT.J t)
  · by_cases hv : (-30000 : Int32) ≤ p ∧ p ≤ 90000
    · obtain ⟨j, hj, rfl⟩ := ex_nat hb.1 hx.2
      have hJ : 0 < NT.J t := by omega
      obtain ⟨tx, nok, mok, sc, nac, acc, mec⟩ := (i3.k (clH_kC (x := 0))).2.2.2 hJ
      have nc : NetC (clH h 0) 15 t := sc.1
      refine ⟨.int (fiS t j p 61), PC h 0, fun h1 h2 => SolM h2 t (solveS (snOf t)) ∧ h2.1 74 44 = -1 ∧ h2.1 74 46 = 100 ∧ FM slS slG (rfH h1 0) h2, ?_, fun h1 q => ?_, fun h1 h2 q z => inv_paper2 i1 i2 i3 i4 i5 (by decide) q z.2.2.2 (MX.fm2 ((i6.k q.kM).rf 0) z.1 z.2.1 z.2.2.1 z.2.2.2 hJ)⟩
      · refine Con.mk (by decide) ?_
        show RT _ _ 0 [some (.ref 0), some (.int (nI j)), some (.int p), none] [] _ _
        refine r_aload_0 dX7_fire_0 ?_
        refine r_iload_1 dX7_fire_1 ?_
        refine r_cV1 mX7_isDrawingJoint dX7_fire_2 ml_X7_232 mo_X7_isDrawingJoint rfl (k_isDrawing hb.1 i3.1 _) (by decide) ?_
        rw [b2i_t hx]
        refine r_if_ne 14 dX7_fire_5 (by decide) (fun c_5 => ?_) (fun c_5 => by exact absurd c_5 (by decide))
        refine r_iload_2 dX7_fire_14 ?_
        refine r_cS1 mX7_isPressureAsked dX7_fire_15 ml_X7_256 mo_X7_isPressureAsked (k_pAsked _ _) (by decide) ?_
        rw [b2i_t hv]
        refine r_if_ne 27 dX7_fire_18 (by decide) (fun c_18 => ?_) (fun c_18 => by exact absurd c_18 (by decide))
        refine r_aload_0 dX7_fire_27 ?_
        refine r_cW0 mX7_allow dX7_fire_28 ml_X7_79 mo_X7_allow rfl (k_allow h) (by decide) ?_
        refine r_bipush (v := nI 60) dX7_fire_31 (by decide) ?_
        refine r_istore_3 dX7_fire_33 ?_
        exact fire_loop tx hj p _ 60 _ (by omega) nc Fr.rf
      · obtain ⟨-, -, m44, m46, -, mm⟩ := (i6.k q.kM).rf 0
        obtain ⟨rwm, sm, nam, acm, mem⟩ := mm hJ
        refine Con.mk (by decide) ?_
        show RT _ _ 0 [some (.ref 74), some (.int (nI j)), some (.int p), none, none] [] _ _
        refine r_aload_0 dX8_fire_0 ?_
        refine r_aload_0 dX8_fire_1 ?_
        refine r_iload_1 dX8_fire_2 ?_
        refine r_cV1 mX8_isDrawing dX8_fire_3 ml_X8_421 mo_X8_isDrawing rfl (q_isDrawing _ hb.1 (f6 q) _) (by decide) ?_
        rw [b2i_t hx]
        refine r_iload_2 dX8_fire_6 ?_
        refine r_i2l dX8_fire_7 ?_
        refine r_ldc2 dX8_fire_8 ks_X8_424 ?_
        refine r_ldc2 dX8_fire_11 ks_X8_426 ?_
        refine r_cS3 mX8_in dX8_fire_14 ml_X8_131 mo_X8_in (q_in _ _ _ _) (by decide) ?_
        rw [b2i_c (in_w (a' := -30000) (b' := 90000) (by decide +kernel) (by decide +kernel)), b2i_t hv]
        refine r_cS2 mX8_unless_ dX8_fire_17 ml_X8_241 mo_X8_unless_ (q_unless2 _ _ _) (by decide) ?_
        rw [show (if (1 : Int32) = 0 then (1 : Int32) else if (1 : Int32) = 0 then 2 else 0) = 0 by decide]
        refine r_cV1 mX8_isRefused dX8_fire_20 ml_X8_245 mo_X8_isRefused rfl (q_isRefused _ _) (by decide) ?_
        rw [b2i_f (by decide)]
        refine r_if_eq 28 dX8_fire_23 (by decide) (fun c_23 => ?_) (fun c_23 => by exact absurd rfl c_23)
        refine r_bipush (v := (-2)) dX8_fire_28 (by decide) ?_
        refine r_istore_3 dX8_fire_30 ?_
        refine r_bipush (v := nI 60) dX8_fire_31 (by decide) ?_
        refine r_istore_4 dX8_fire_33 ?_
        exact mfire_loop tx hj p _ 60 _ (by omega) rwm m46 FM.rf
    · refine Same.to2 i0 ⟨.int (-1), 2, by decide, ?_, ?_⟩
      · refine Con.mk (by decide) ?_
        show RT _ _ 0 [some (.ref 0), some (.int x), some (.int p), none] [] _ _
        refine r_aload_0 dX7_fire_0 ?_
        refine r_iload_1 dX7_fire_1 ?_
        refine r_cV1 mX7_isDrawingJoint dX7_fire_2 ml_X7_232 mo_X7_isDrawingJoint rfl (k_isDrawing hb.1 i3.1 _) (by decide) ?_
        rw [b2i_t hx]
        refine r_if_ne 14 dX7_fire_5 (by decide) (fun c_5 => ?_) (fun c_5 => by exact absurd c_5 (by decide))
        refine r_iload_2 dX7_fire_14 ?_
        refine r_cS1 mX7_isPressureAsked dX7_fire_15 ml_X7_256 mo_X7_isPressureAsked (k_pAsked _ _) (by decide) ?_
        rw [b2i_f hv]
        refine r_if_ne 27 dX7_fire_18 (by decide) (fun c_18 => by exact absurd rfl c_18) (fun c_18 => ?_)
        refine r_aload_0 dX7_fire_21 ?_
        refine r_iconst (v := 2) dX7_fire_22 (by decide) ?_
        refine r_cV1 mX7_refuse dX7_fire_23 ml_X7_65 mo_X7_refuse rfl (k_refuse h 2) (by decide) ?_
        refine r_iret dX7_fire_26 rfl ?_
        exact ⟨rfl, rfl⟩
      · refine Con.mk (by decide) ?_
        show RT _ _ 0 [some (.ref 74), some (.int x), some (.int p), none, none] [] _ _
        refine r_aload_0 dX8_fire_0 ?_
        refine r_aload_0 dX8_fire_1 ?_
        refine r_iload_1 dX8_fire_2 ?_
        refine r_cV1 mX8_isDrawing dX8_fire_3 ml_X8_421 mo_X8_isDrawing rfl (q_isDrawing _ hb.1 (f6 (pr 2)) _) (by decide) ?_
        rw [b2i_t hx]
        refine r_iload_2 dX8_fire_6 ?_
        refine r_i2l dX8_fire_7 ?_
        refine r_ldc2 dX8_fire_8 ks_X8_424 ?_
        refine r_ldc2 dX8_fire_11 ks_X8_426 ?_
        refine r_cS3 mX8_in dX8_fire_14 ml_X8_131 mo_X8_in (q_in _ _ _ _) (by decide) ?_
        rw [b2i_c (in_w (a' := -30000) (b' := 90000) (by decide +kernel) (by decide +kernel)), b2i_f hv]
        refine r_cS2 mX8_unless_ dX8_fire_17 ml_X8_241 mo_X8_unless_ (q_unless2 _ _ _) (by decide) ?_
        rw [show (if (1 : Int32) = 0 then (1 : Int32) else if (0 : Int32) = 0 then 2 else 0) = 2 by decide]
        refine r_cV1 mX8_isRefused dX8_fire_20 ml_X8_245 mo_X8_isRefused rfl (q_isRefused _ _) (by decide) ?_
        rw [b2i_t (by decide)]
        refine r_if_eq 28 dX8_fire_23 (by decide) (fun c_23 => by exact absurd c_23 (by decide)) (fun c_23 => ?_)
        refine r_iconst (v := (-1)) dX8_fire_26 (by decide) ?_
        refine r_iret dX8_fire_27 rfl ?_
        exact ⟨rfl, rfl⟩
  · refine Same.to2 i0 ⟨.int (-1), 1, by decide, ?_, ?_⟩
    · refine Con.mk (by decide) ?_
      show RT _ _ 0 [some (.ref 0), some (.int x), some (.int p), none] [] _ _
      refine r_aload_0 dX7_fire_0 ?_
      refine r_iload_1 dX7_fire_1 ?_
      refine r_cV1 mX7_isDrawingJoint dX7_fire_2 ml_X7_232 mo_X7_isDrawingJoint rfl (k_isDrawing hb.1 i3.1 _) (by decide) ?_
      rw [b2i_f hx]
      refine r_if_ne 14 dX7_fire_5 (by decide) (fun c_5 => by exact absurd rfl c_5) (fun c_5 => ?_)
      refine r_aload_0 dX7_fire_8 ?_
      refine r_iconst (v := 1) dX7_fire_9 (by decide) ?_
      refine r_cV1 mX7_refuse dX7_fire_10 ml_X7_65 mo_X7_refuse rfl (k_refuse h 1) (by decide) ?_
      refine r_iret dX7_fire_13 rfl ?_
      exact ⟨rfl, rfl⟩
    · refine Con.mk (by decide) ?_
      show RT _ _ 0 [some (.ref 74), some (.int x), some (.int p), none, none] [] _ _
      refine r_aload_0 dX8_fire_0 ?_
      refine r_aload_0 dX8_fire_1 ?_
      refine r_iload_1 dX8_fire_2 ?_
      refine r_cV1 mX8_isDrawing dX8_fire_3 ml_X8_421 mo_X8_isDrawing rfl (q_isDrawing _ hb.1 (f6 (pr 1)) _) (by decide) ?_
      rw [b2i_f hx]
      refine r_iload_2 dX8_fire_6 ?_
      refine r_i2l dX8_fire_7 ?_
      refine r_ldc2 dX8_fire_8 ks_X8_424 ?_
      refine r_ldc2 dX8_fire_11 ks_X8_426 ?_
      refine r_cS3 mX8_in dX8_fire_14 ml_X8_131 mo_X8_in (q_in _ _ _ _) (by decide) ?_
      refine r_cS2 mX8_unless_ dX8_fire_17 ml_X8_241 mo_X8_unless_ (q_unless2 _ _ _) (by decide) ?_
      rw [if_pos rfl]
      refine r_cV1 mX8_isRefused dX8_fire_20 ml_X8_245 mo_X8_isRefused rfl (q_isRefused _ _) (by decide) ?_
      rw [b2i_t (by decide)]
      refine r_if_eq 28 dX8_fire_23 (by decide) (fun c_23 => by exact absurd c_23 (by decide)) (fun c_23 => ?_)
      refine r_iconst (v := (-1)) dX8_fire_26 (by decide) ?_
      refine r_iret dX8_fire_27 rfl ?_
      exact ⟨rfl, rfl⟩

