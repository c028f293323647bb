/-! ===== both: most ===== -/
def moS (t : NT) (p : Int32) : Nat → Int32
  | 0 => -2
  | m + 1 => if p.toInt64 ≤ lpN (scT t m) then nI m else moS t p m
theorem lpN_dr {t : NT} {f g : Nat → Int32} (h : ∀ j, j < NT.J t → f j = g j) : lpN (setDr t f) = lpN (setDr t g) := by
  have e : drT (setDr t f) = drT (setDr t g) := funext fun j => by
    show (if j < NT.J t then (f j).toInt64 else 0) = (if j < NT.J t then (g j).toInt64 else 0)
    by_cases q : j < NT.J t
    · rw [if_pos q, if_pos q, h j q]
    · rw [if_neg q, if_neg q]
  have e1 : lsT (setDr t f) = lsT (setDr t g) := funext fun j => funext fun x => rfl
  have e2 : spT (setDr t f) = spT (setDr t g) := funext fun j => funext fun x => rfl
  have es : snOf (setDr t f) = snOf (setDr t g) := by
    show (NT.E t, NT.fi t, NT.se t, NT.kd t, lsT (setDr t f), spT (setDr t f), drT (setDr t f), 100 * (NT.wh t).toInt64, NT.cl t) = (NT.E t, NT.fi t, NT.se t, NT.kd t, lsT (setDr t g), spT (setDr t g), drT (setDr t g), 100 * (NT.wh t).toInt64, NT.cl t)
    rw [e, e1, e2]
  unfold lpN
  rw [lpA_dr, lpA_dr, es]
set_option maxRecDepth 100000 in
set_option maxHeartbeats 4000000 in
theorem most_loop {t : NT} (tx : TxOK t) (p : Int32) (h0 : PH) : ∀ (m : Nat) (f : Nat → Int32) (h : PH), m ≤ 300 → NetC h 15 t → NetC h 42 (setDr t f) → (m < 300 → ¬ p.toInt64 ≤ lpN (setDr t f)) → Fr pap h0 h → RT mX7_most 6 45 [some (.ref 0), some (.int p), some (.int (nI m)), none] [] h (fun a h' => a = some (.int (moS t p (m + 1))) ∧ Fr pap h0 h') := by
  have np : ∀ j, j < 10 → ¬ pap (15 + j) := fun j hj q => by have := q.1; omega
  intro m
  induction m with
  | zero =>
    intro f h hm nc nc2 hs fr
    by_cases hp : p.toInt64 ≤ lpN (scT t (0))
    · rw [show moS t p (0 + 1) = nI (0) from if_pos hp]
      have t76 : ∀ h1 z, NetC h1 42 (scT t (0)) → NetC h1 15 t → Fr pap h0 h1 → RT mX7_most 6 76 [some (.ref 0), some (.int p), some (.int (nI (0))), z] [] h1 (fun a h' => a = some (.int (nI (0))) ∧ Fr pap h0 h') := fun h1 z nc3 nc1 fr1 => by
        refine r_aload_0 dX7_most_76 ?_
        refine r_getR (a := 41) dX7_most_77 fl_X7_38 rfl rfl ?_
        refine r_cWQ0 mX6_solve dX7_most_80 ml_X7_248 mo_X6_solve rfl (k_solve isW41 (tx.sc hm) nc3) (by decide) (fun h4 p4 => ?_)
        obtain ⟨s4, f4⟩ := p4
        have f5 : Fr pap h1 h4 := f4.wk (fun _ q => rg_pap q)
        have nc4 : NetC h4 15 t := nc1.fr f5 np
        refine r_aload_0 dX7_most_83 ?_
        refine r_getR (a := 41) dX7_most_84 fl_X7_38 rfl rfl ?_
        refine r_cV0 mX6_leastPressureOfAll dX7_most_87 ml_X7_251 mo_X6_leastPressureOfAll rfl (k_leastAll isW41 (tx.sc hm) _ s4.1 s4.2.2.2.2.2.1 _ (hd_at (tx.sc hm) _ s4.2.2.2.2.2.2.2.2)) (by decide) ?_
        refine r_iload_1 dX7_most_90 ?_
        refine r_i2l dX7_most_91 ?_
        refine r_lif_lt 98 dX7_most_92 dX7_most_93 (by decide) (fun c_92 => by exact absurd c_92 (Int64.not_lt.mpr hp)) (fun c_92 => ?_)
        refine r_iload_2 dX7_most_96 ?_
        refine r_iret dX7_most_97 rfl ?_
        exact ⟨rfl, fr1.tr f5⟩
      by_cases hz : otS (scD t (0)) f (NT.J t) 0 0 = 0
      · by_cases h3 : 0 < 300
        · exact absurd (by rw [lpN_dr (t := t) (f := f) (g := scD t (0)) (fun j hj => ((otS_0 _ _ _ hz).2 j (by omega) (by omega)).symm)]; exact hp) (hs h3)
        · skip
          refine r_iload_2 dX7_most_45 ?_
          refine r_if_lt 104 dX7_most_46 (by decide) (fun c_46 => by exact absurd c_46 (nI_pos (by omega))) (fun c_46 => ?_)
          refine r_aload_0 dX7_most_49 ?_
          refine r_getR (a := 42) dX7_most_50 fl_X7_41 rfl rfl ?_
          refine r_aload_0 dX7_most_53 ?_
          refine r_getR (a := 15) dX7_most_54 fl_X7_37 rfl rfl ?_
          refine r_iload_2 dX7_most_57 ?_
          refine r_cVQ2 mX2_scaleDraws dX7_most_58 ml_X7_244 mo_X2_scaleDraws rfl (k_scale tx.1 (n := 0) nc nc2) (by decide) (fun h1 p1 => ?_)
          obtain ⟨nc3, f3⟩ := p1
          have fr1 : Fr pap h0 h1 := fr.tr (f3.wk (fun y q => ⟨by omega, by omega⟩))
          have nc1 : NetC h1 15 t := nc.fr f3 (fun j hj q => by omega)
          refine r_istore_3 dX7_most_61 ?_
          refine r_iload_3 dX7_most_62 ?_
          refine r_if_ne 76 dX7_most_63 (by decide) (fun c_63 => by exact absurd hz c_63) (fun c_63 => ?_)
          refine r_iload_2 dX7_most_66 ?_
          refine r_sipush (v := nI 300) dX7_most_67 (by decide) ?_
          refine r_icmpN_ge 76 dX7_most_70 (by decide) (by omega) (by omega) (fun c_70 => ?_) (fun c_70 => by omega)
          exact t76 h1 _ nc3 nc1 fr1
      · skip
        refine r_iload_2 dX7_most_45 ?_
        refine r_if_lt 104 dX7_most_46 (by decide) (fun c_46 => by exact absurd c_46 (nI_pos (by omega))) (fun c_46 => ?_)
        refine r_aload_0 dX7_most_49 ?_
        refine r_getR (a := 42) dX7_most_50 fl_X7_41 rfl rfl ?_
        refine r_aload_0 dX7_most_53 ?_
        refine r_getR (a := 15) dX7_most_54 fl_X7_37 rfl rfl ?_
        refine r_iload_2 dX7_most_57 ?_
        refine r_cVQ2 mX2_scaleDraws dX7_most_58 ml_X7_244 mo_X2_scaleDraws rfl (k_scale tx.1 (n := 0) nc nc2) (by decide) (fun h1 p1 => ?_)
        obtain ⟨nc3, f3⟩ := p1
        have fr1 : Fr pap h0 h1 := fr.tr (f3.wk (fun y q => ⟨by omega, by omega⟩))
        have nc1 : NetC h1 15 t := nc.fr f3 (fun j hj q => by omega)
        refine r_istore_3 dX7_most_61 ?_
        refine r_iload_3 dX7_most_62 ?_
        refine r_if_ne 76 dX7_most_63 (by decide) (fun c_63 => ?_) (fun c_63 => by exact absurd c_63 hz)
        exact t76 h1 _ nc3 nc1 fr1
    · rw [show moS t p (0 + 1) = moS t p (0) from if_neg hp]
      have t98 : ∀ h1 z, NetC h1 42 (scT t (0)) → NetC h1 15 t → Fr pap h0 h1 → RT mX7_most 6 98 [some (.ref 0), some (.int p), some (.int (nI (0))), z] [] h1 (fun a h' => a = some (.int (moS t p (0))) ∧ Fr pap h0 h') := fun h1 z nc3 nc1 fr1 => by
        refine r_iinc_2 (v := (-1)) dX7_most_98 (by decide) ?_
        rw [d0m]
        refine r_goto 45 dX7_most_101 (by decide) ?_
        refine r_iload_2 dX7_most_45 ?_
        refine r_if_lt 104 dX7_most_46 (by decide) (fun c_46 => ?_) (fun c_46 => by exact absurd (by decide) c_46)
        refine r_bipush (v := (-2)) dX7_most_104 (by decide) ?_
        refine r_iret dX7_most_106 rfl ?_
        exact ⟨rfl, fr1⟩
      have t76 : ∀ h1 z, NetC h1 42 (scT t (0)) → NetC h1 15 t → Fr pap h0 h1 → RT mX7_most 6 76 [some (.ref 0), some (.int p), some (.int (nI (0))), z] [] h1 (fun a h' => a = some (.int (moS t p (0))) ∧ Fr pap h0 h') := fun h1 z nc3 nc1 fr1 => by
        refine r_aload_0 dX7_most_76 ?_
        refine r_getR (a := 41) dX7_most_77 fl_X7_38 rfl rfl ?_
        refine r_cWQ0 mX6_solve dX7_most_80 ml_X7_248 mo_X6_solve rfl (k_solve isW41 (tx.sc hm) nc3) (by decide) (fun h4 p4 => ?_)
        obtain ⟨s4, f4⟩ := p4
        have f5 : Fr pap h1 h4 := f4.wk (fun _ q => rg_pap q)
        have nc4 : NetC h4 15 t := nc1.fr f5 np
        refine r_aload_0 dX7_most_83 ?_
        refine r_getR (a := 41) dX7_most_84 fl_X7_38 rfl rfl ?_
        refine r_cV0 mX6_leastPressureOfAll dX7_most_87 ml_X7_251 mo_X6_leastPressureOfAll rfl (k_leastAll isW41 (tx.sc hm) _ s4.1 s4.2.2.2.2.2.1 _ (hd_at (tx.sc hm) _ s4.2.2.2.2.2.2.2.2)) (by decide) ?_
        refine r_iload_1 dX7_most_90 ?_
        refine r_i2l dX7_most_91 ?_
        refine r_lif_lt 98 dX7_most_92 dX7_most_93 (by decide) (fun c_92 => ?_) (fun c_92 => by exact absurd (Int64.not_le.mp hp) c_92)
        exact t98 h4 _ s4.1 nc4 (fr1.tr f5)
      by_cases hz : otS (scD t (0)) f (NT.J t) 0 0 = 0
      · by_cases h3 : 0 < 300
        · skip
          refine r_iload_2 dX7_most_45 ?_
          refine r_if_lt 104 dX7_most_46 (by decide) (fun c_46 => by exact absurd c_46 (nI_pos (by omega))) (fun c_46 => ?_)
          refine r_aload_0 dX7_most_49 ?_
          refine r_getR (a := 42) dX7_most_50 fl_X7_41 rfl rfl ?_
          refine r_aload_0 dX7_most_53 ?_
          refine r_getR (a := 15) dX7_most_54 fl_X7_37 rfl rfl ?_
          refine r_iload_2 dX7_most_57 ?_
          refine r_cVQ2 mX2_scaleDraws dX7_most_58 ml_X7_244 mo_X2_scaleDraws rfl (k_scale tx.1 (n := 0) nc nc2) (by decide) (fun h1 p1 => ?_)
          obtain ⟨nc3, f3⟩ := p1
          have fr1 : Fr pap h0 h1 := fr.tr (f3.wk (fun y q => ⟨by omega, by omega⟩))
          have nc1 : NetC h1 15 t := nc.fr f3 (fun j hj q => by omega)
          refine r_istore_3 dX7_most_61 ?_
          refine r_iload_3 dX7_most_62 ?_
          refine r_if_ne 76 dX7_most_63 (by decide) (fun c_63 => by exact absurd hz c_63) (fun c_63 => ?_)
          refine r_iload_2 dX7_most_66 ?_
          refine r_sipush (v := nI 300) dX7_most_67 (by decide) ?_
          refine r_icmpN_ge 76 dX7_most_70 (by decide) (by omega) (by omega) (fun c_70 => by omega) (fun c_70 => ?_)
          refine r_goto 98 dX7_most_73 (by decide) ?_
          exact t98 h1 _ nc3 nc1 fr1
        · skip
          refine r_iload_2 dX7_most_45 ?_
          refine r_if_lt 104 dX7_most_46 (by decide) (fun c_46 => by exact absurd c_46 (nI_pos (by omega))) (fun c_46 => ?_)
          refine r_aload_0 dX7_most_49 ?_
          refine r_getR (a := 42) dX7_most_50 fl_X7_41 rfl rfl ?_
          refine r_aload_0 dX7_most_53 ?_
          refine r_getR (a := 15) dX7_most_54 fl_X7_37 rfl rfl ?_
          refine r_iload_2 dX7_most_57 ?_
          refine r_cVQ2 mX2_scaleDraws dX7_most_58 ml_X7_244 mo_X2_scaleDraws rfl (k_scale tx.1 (n := 0) nc nc2) (by decide) (fun h1 p1 => ?_)
          obtain ⟨nc3, f3⟩ := p1
          have fr1 : Fr pap h0 h1 := fr.tr (f3.wk (fun y q => ⟨by omega, by omega⟩))
          have nc1 : NetC h1 15 t := nc.fr f3 (fun j hj q => by omega)
          refine r_istore_3 dX7_most_61 ?_
          refine r_iload_3 dX7_most_62 ?_
          refine r_if_ne 76 dX7_most_63 (by decide) (fun c_63 => by exact absurd hz c_63) (fun c_63 => ?_)
          refine r_iload_2 dX7_most_66 ?_
          refine r_sipush (v := nI 300) dX7_most_67 (by decide) ?_
          refine r_icmpN_ge 76 dX7_most_70 (by decide) (by omega) (by omega) (fun c_70 => ?_) (fun c_70 => by omega)
          exact t76 h1 _ nc3 nc1 fr1
      · skip
        refine r_iload_2 dX7_most_45 ?_
        refine r_if_lt 104 dX7_most_46 (by decide) (fun c_46 => by exact absurd c_46 (nI_pos (by omega))) (fun c_46 => ?_)
        refine r_aload_0 dX7_most_49 ?_
        refine r_getR (a := 42) dX7_most_50 fl_X7_41 rfl rfl ?_
        refine r_aload_0 dX7_most_53 ?_
        refine r_getR (a := 15) dX7_most_54 fl_X7_37 rfl rfl ?_
        refine r_iload_2 dX7_most_57 ?_
        refine r_cVQ2 mX2_scaleDraws dX7_most_58 ml_X7_244 mo_X2_scaleDraws rfl (k_scale tx.1 (n := 0) nc nc2) (by decide) (fun h1 p1 => ?_)
        obtain ⟨nc3, f3⟩ := p1
        have fr1 : Fr pap h0 h1 := fr.tr (f3.wk (fun y q => ⟨by omega, by omega⟩))
        have nc1 : NetC h1 15 t := nc.fr f3 (fun j hj q => by omega)
        refine r_istore_3 dX7_most_61 ?_
        refine r_iload_3 dX7_most_62 ?_
        refine r_if_ne 76 dX7_most_63 (by decide) (fun c_63 => ?_) (fun c_63 => by exact absurd c_63 hz)
        exact t76 h1 _ nc3 nc1 fr1
  | succ m ih =>
    intro f h hm nc nc2 hs fr
    by_cases hp : p.toInt64 ≤ lpN (scT t (m + 1))
    · rw [show moS t p (m + 1 + 1) = nI (m + 1) from if_pos hp]
      have t76 : ∀ h1 z, NetC h1 42 (scT t (m + 1)) → NetC h1 15 t → Fr pap h0 h1 → RT mX7_most 6 76 [some (.ref 0), some (.int p), some (.int (nI (m + 1))), z] [] h1 (fun a h' => a = some (.int (nI (m + 1))) ∧ Fr pap h0 h') := fun h1 z nc3 nc1 fr1 => by
        refine r_aload_0 dX7_most_76 ?_
        refine r_getR (a := 41) dX7_most_77 fl_X7_38 rfl rfl ?_
        refine r_cWQ0 mX6_solve dX7_most_80 ml_X7_248 mo_X6_solve rfl (k_solve isW41 (tx.sc hm) nc3) (by decide) (fun h4 p4 => ?_)
        obtain ⟨s4, f4⟩ := p4
        have f5 : Fr pap h1 h4 := f4.wk (fun _ q => rg_pap q)
        have nc4 : NetC h4 15 t := nc1.fr f5 np
        refine r_aload_0 dX7_most_83 ?_
        refine r_getR (a := 41) dX7_most_84 fl_X7_38 rfl rfl ?_
        refine r_cV0 mX6_leastPressureOfAll dX7_most_87 ml_X7_251 mo_X6_leastPressureOfAll rfl (k_leastAll isW41 (tx.sc hm) _ s4.1 s4.2.2.2.2.2.1 _ (hd_at (tx.sc hm) _ s4.2.2.2.2.2.2.2.2)) (by decide) ?_
        refine r_iload_1 dX7_most_90 ?_
        refine r_i2l dX7_most_91 ?_
        refine r_lif_lt 98 dX7_most_92 dX7_most_93 (by decide) (fun c_92 => by exact absurd c_92 (Int64.not_lt.mpr hp)) (fun c_92 => ?_)
        refine r_iload_2 dX7_most_96 ?_
        refine r_iret dX7_most_97 rfl ?_
        exact ⟨rfl, fr1.tr f5⟩
      by_cases hz : otS (scD t (m + 1)) f (NT.J t) 0 0 = 0
      · by_cases h3 : m + 1 < 300
        · exact absurd (by rw [lpN_dr (t := t) (f := f) (g := scD t (m + 1)) (fun j hj => ((otS_0 _ _ _ hz).2 j (by omega) (by omega)).symm)]; exact hp) (hs h3)
        · skip
          refine r_iload_2 dX7_most_45 ?_
          refine r_if_lt 104 dX7_most_46 (by decide) (fun c_46 => by exact absurd c_46 (nI_pos (by omega))) (fun c_46 => ?_)
          refine r_aload_0 dX7_most_49 ?_
          refine r_getR (a := 42) dX7_most_50 fl_X7_41 rfl rfl ?_
          refine r_aload_0 dX7_most_53 ?_
          refine r_getR (a := 15) dX7_most_54 fl_X7_37 rfl rfl ?_
          refine r_iload_2 dX7_most_57 ?_
          refine r_cVQ2 mX2_scaleDraws dX7_most_58 ml_X7_244 mo_X2_scaleDraws rfl (k_scale tx.1 (n := m + 1) nc nc2) (by decide) (fun h1 p1 => ?_)
          obtain ⟨nc3, f3⟩ := p1
          have fr1 : Fr pap h0 h1 := fr.tr (f3.wk (fun y q => ⟨by omega, by omega⟩))
          have nc1 : NetC h1 15 t := nc.fr f3 (fun j hj q => by omega)
          refine r_istore_3 dX7_most_61 ?_
          refine r_iload_3 dX7_most_62 ?_
          refine r_if_ne 76 dX7_most_63 (by decide) (fun c_63 => by exact absurd hz c_63) (fun c_63 => ?_)
          refine r_iload_2 dX7_most_66 ?_
          refine r_sipush (v := nI 300) dX7_most_67 (by decide) ?_
          refine r_icmpN_ge 76 dX7_most_70 (by decide) (by omega) (by omega) (fun c_70 => ?_) (fun c_70 => by omega)
          exact t76 h1 _ nc3 nc1 fr1
      · skip
        refine r_iload_2 dX7_most_45 ?_
        refine r_if_lt 104 dX7_most_46 (by decide) (fun c_46 => by exact absurd c_46 (nI_pos (by omega))) (fun c_46 => ?_)
        refine r_aload_0 dX7_most_49 ?_
        refine r_getR (a := 42) dX7_most_50 fl_X7_41 rfl rfl ?_
        refine r_aload_0 dX7_most_53 ?_
        refine r_getR (a := 15) dX7_most_54 fl_X7_37 rfl rfl ?_
        refine r_iload_2 dX7_most_57 ?_
        refine r_cVQ2 mX2_scaleDraws dX7_most_58 ml_X7_244 mo_X2_scaleDraws rfl (k_scale tx.1 (n := m + 1) nc nc2) (by decide) (fun h1 p1 => ?_)
        obtain ⟨nc3, f3⟩ := p1
        have fr1 : Fr pap h0 h1 := fr.tr (f3.wk (fun y q => ⟨by omega, by omega⟩))
        have nc1 : NetC h1 15 t := nc.fr f3 (fun j hj q => by omega)
        refine r_istore_3 dX7_most_61 ?_
        refine r_iload_3 dX7_most_62 ?_
        refine r_if_ne 76 dX7_most_63 (by decide) (fun c_63 => ?_) (fun c_63 => by exact absurd c_63 hz)
        exact t76 h1 _ nc3 nc1 fr1
    · rw [show moS t p (m + 1 + 1) = moS t p (m + 1) from if_neg hp]
      have t98 : ∀ h1 z, NetC h1 42 (scT t (m + 1)) → NetC h1 15 t → Fr pap h0 h1 → RT mX7_most 6 98 [some (.ref 0), some (.int p), some (.int (nI (m + 1))), z] [] h1 (fun a h' => a = some (.int (moS t p (m + 1))) ∧ Fr pap h0 h') := fun h1 z nc3 nc1 fr1 => by
        refine r_idecN_2 dX7_most_98 ?_
        refine r_goto 45 dX7_most_101 (by decide) ?_
        refine RT.sub (lv' := [some (.ref 0), some (.int p), some (.int (nI m)), none]) (by simp [lsub]) ?_
        exact ih _ h1 (by omega) nc1 nc3 (fun _ => hp) (fr1)
      have t76 : ∀ h1 z, NetC h1 42 (scT t (m + 1)) → NetC h1 15 t → Fr pap h0 h1 → RT mX7_most 6 76 [some (.ref 0), some (.int p), some (.int (nI (m + 1))), z] [] h1 (fun a h' => a = some (.int (moS t p (m + 1))) ∧ Fr pap h0 h') := fun h1 z nc3 nc1 fr1 => by
        refine r_aload_0 dX7_most_76 ?_
        refine r_getR (a := 41) dX7_most_77 fl_X7_38 rfl rfl ?_
        refine r_cWQ0 mX6_solve dX7_most_80 ml_X7_248 mo_X6_solve rfl (k_solve isW41 (tx.sc hm) nc3) (by decide) (fun h4 p4 => ?_)
        obtain ⟨s4, f4⟩ := p4
        have f5 : Fr pap h1 h4 := f4.wk (fun _ q => rg_pap q)
        have nc4 : NetC h4 15 t := nc1.fr f5 np
        refine r_aload_0 dX7_most_83 ?_
        refine r_getR (a := 41) dX7_most_84 fl_X7_38 rfl rfl ?_
        refine r_cV0 mX6_leastPressureOfAll dX7_most_87 ml_X7_251 mo_X6_leastPressureOfAll rfl (k_leastAll isW41 (tx.sc hm) _ s4.1 s4.2.2.2.2.2.1 _ (hd_at (tx.sc hm) _ s4.2.2.2.2.2.2.2.2)) (by decide) ?_
        refine r_iload_1 dX7_most_90 ?_
        refine r_i2l dX7_most_91 ?_
        refine r_lif_lt 98 dX7_most_92 dX7_most_93 (by decide) (fun c_92 => ?_) (fun c_92 => by exact absurd (Int64.not_le.mp hp) c_92)
        exact t98 h4 _ s4.1 nc4 (fr1.tr f5)
      by_cases hz : otS (scD t (m + 1)) f (NT.J t) 0 0 = 0
      · by_cases h3 : m + 1 < 300
        · skip
          refine r_iload_2 dX7_most_45 ?_
          refine r_if_lt 104 dX7_most_46 (by decide) (fun c_46 => by exact absurd c_46 (nI_pos (by omega))) (fun c_46 => ?_)
          refine r_aload_0 dX7_most_49 ?_
          refine r_getR (a := 42) dX7_most_50 fl_X7_41 rfl rfl ?_
          refine r_aload_0 dX7_most_53 ?_
          refine r_getR (a := 15) dX7_most_54 fl_X7_37 rfl rfl ?_
          refine r_iload_2 dX7_most_57 ?_
          refine r_cVQ2 mX2_scaleDraws dX7_most_58 ml_X7_244 mo_X2_scaleDraws rfl (k_scale tx.1 (n := m + 1) nc nc2) (by decide) (fun h1 p1 => ?_)
          obtain ⟨nc3, f3⟩ := p1
          have fr1 : Fr pap h0 h1 := fr.tr (f3.wk (fun y q => ⟨by omega, by omega⟩))
          have nc1 : NetC h1 15 t := nc.fr f3 (fun j hj q => by omega)
          refine r_istore_3 dX7_most_61 ?_
          refine r_iload_3 dX7_most_62 ?_
          refine r_if_ne 76 dX7_most_63 (by decide) (fun c_63 => by exact absurd hz c_63) (fun c_63 => ?_)
          refine r_iload_2 dX7_most_66 ?_
          refine r_sipush (v := nI 300) dX7_most_67 (by decide) ?_
          refine r_icmpN_ge 76 dX7_most_70 (by decide) (by omega) (by omega) (fun c_70 => by omega) (fun c_70 => ?_)
          refine r_goto 98 dX7_most_73 (by decide) ?_
          exact t98 h1 _ nc3 nc1 fr1
        · skip
          refine r_iload_2 dX7_most_45 ?_
          refine r_if_lt 104 dX7_most_46 (by decide) (fun c_46 => by exact absurd c_46 (nI_pos (by omega))) (fun c_46 => ?_)
          refine r_aload_0 dX7_most_49 ?_
          refine r_getR (a := 42) dX7_most_50 fl_X7_41 rfl rfl ?_
          refine r_aload_0 dX7_most_53 ?_
          refine r_getR (a := 15) dX7_most_54 fl_X7_37 rfl rfl ?_
          refine r_iload_2 dX7_most_57 ?_
          refine r_cVQ2 mX2_scaleDraws dX7_most_58 ml_X7_244 mo_X2_scaleDraws rfl (k_scale tx.1 (n := m + 1) nc nc2) (by decide) (fun h1 p1 => ?_)
          obtain ⟨nc3, f3⟩ := p1
          have fr1 : Fr pap h0 h1 := fr.tr (f3.wk (fun y q => ⟨by omega, by omega⟩))
          have nc1 : NetC h1 15 t := nc.fr f3 (fun j hj q => by omega)
          refine r_istore_3 dX7_most_61 ?_
          refine r_iload_3 dX7_most_62 ?_
          refine r_if_ne 76 dX7_most_63 (by decide) (fun c_63 => by exact absurd hz c_63) (fun c_63 => ?_)
          refine r_iload_2 dX7_most_66 ?_
          refine r_sipush (v := nI 300) dX7_most_67 (by decide) ?_
          refine r_icmpN_ge 76 dX7_most_70 (by decide) (by omega) (by omega) (fun c_70 => ?_) (fun c_70 => by omega)
          exact t76 h1 _ nc3 nc1 fr1
      · skip
        refine r_iload_2 dX7_most_45 ?_
        refine r_if_lt 104 dX7_most_46 (by decide) (fun c_46 => by exact absurd c_46 (nI_pos (by omega))) (fun c_46 => ?_)
        refine r_aload_0 dX7_most_49 ?_
        refine r_getR (a := 42) dX7_most_50 fl_X7_41 rfl rfl ?_
        refine r_aload_0 dX7_most_53 ?_
        refine r_getR (a := 15) dX7_most_54 fl_X7_37 rfl rfl ?_
        refine r_iload_2 dX7_most_57 ?_
        refine r_cVQ2 mX2_scaleDraws dX7_most_58 ml_X7_244 mo_X2_scaleDraws rfl (k_scale tx.1 (n := m + 1) nc nc2) (by decide) (fun h1 p1 => ?_)
        obtain ⟨nc3, f3⟩ := p1
        have fr1 : Fr pap h0 h1 := fr.tr (f3.wk (fun y q => ⟨by omega, by omega⟩))
        have nc1 : NetC h1 15 t := nc.fr f3 (fun j hj q => by omega)
        refine r_istore_3 dX7_most_61 ?_
        refine r_iload_3 dX7_most_62 ?_
        refine r_if_ne 76 dX7_most_63 (by decide) (fun c_63 => ?_) (fun c_63 => by exact absurd c_63 hz)
        exact t76 h1 _ nc3 nc1 fr1
set_option maxRecDepth 100000 in
set_option maxHeartbeats 4000000 in
theorem mmost_end {t : NT} (tx : TxOK t) {h0 h : PH} (nc : NetM h t) (h44 : h.1 74 44 = -1) (h46 : h.1 74 46 = 100) (fr : FM slS slG h0 h) (a c : Option Value) (v : Int32) : RT mX8_most 8 78 [some (.ref 74), a, some (.int v), c] [] h (fun a h' => a = some (.int v) ∧ (SolM h' t (solveS (snOf t)) ∧ h'.1 74 44 = -1 ∧ h'.1 74 46 = 100 ∧ FM slS slG h0 h')) := by
  refine r_aload_0 dX8_most_78 ?_
  refine r_cWQ0 mX8_solves dX8_most_79 ml_X8_260 mo_X8_solves rfl (q_solves tx.1 nc) (by decide) (fun h1 p1 => ?_)
  obtain ⟨s1, f1⟩ := p1
  refine r_iload_2 dX8_most_82 ?_
  refine r_iret dX8_most_83 rfl ?_
  exact ⟨rfl, s1, (f1.1 44 (by unfold slF; omega)).trans h44, (f1.1 46 (by unfold slF; omega)).trans h46, fr.tr f1.toG⟩

set_option maxRecDepth 100000 in
set_option maxHeartbeats 4000000 in
theorem mmost_loop {t : NT} (tx : TxOK t) (p : Int32) (h0 : PH) : ∀ (m : Nat) (h : PH), m ≤ 300 → RawM h t → h.1 74 44 = -1 → h.1 74 46 = 100 → FM slS slG h0 h → RT mX8_most 8 42 [some (.ref 74), some (.int p), some (.int (-2)), some (.int (nI m))] [] h (fun a h' => a = some (.int (moS t p (m + 1))) ∧ (SolM h' t (solveS (snOf t)) ∧ h'.1 74 44 = -1 ∧ h'.1 74 46 = 100 ∧ FM slS slG h0 h')) := by
  intro m
  induction m with
  | zero =>
    intro h hm r h44 h46 fr
    by_cases hp : p.toInt64 ≤ lpN (scT t (0))
    · rw [show moS t p (0 + 1) = nI (0) from if_pos hp]
      rw [lp_sc] at hp
      refine r_iload_3 dX8_most_42 ?_
      refine r_if_lt 78 dX8_most_43 (by decide) (fun c_43 => by exact absurd c_43 (nI_pos (by omega))) (fun c_43 => ?_)
      refine r_iload_2 dX8_most_46 ?_
      refine r_bipush (v := (-2)) dX8_most_47 (by decide) ?_
      refine r_icmp_ne 78 dX8_most_49 (by decide) (fun c_49 => by exact absurd rfl c_49) (fun c_49 => ?_)
      refine r_aload_0 dX8_most_52 ?_
      refine r_iload_3 dX8_most_53 ?_
      refine r_cWQ1 mX8_solvesShared dX8_most_54 ml_X8_440 mo_X8_solvesShared rfl (q_shared tx r h44 (n := 0) hm) (by decide) (fun h1 p1 => ?_)
      obtain ⟨⟨nc3, tc3, hd3⟩, e1, e2, f1⟩ := p1
      have r1 := r.fm f1
      refine r_aload_0 dX8_most_57 ?_
      refine r_iload_1 dX8_most_58 ?_
      refine r_cV1 mX8_isEnough dX8_most_59 ml_X8_432 mo_X8_isEnough rfl (q_isEnough tx.1 _ nc3 tc3 _ hd3 tx.2.1 p) (by decide) ?_
      rw [b2i_c lpA_dry, b2i_t hp]
      refine r_if_eq 69 dX8_most_62 (by decide) (fun c_62 => by exact absurd c_62 (by decide)) (fun c_62 => ?_)
      refine r_iload_3 dX8_most_65 ?_
      refine r_goto 71 dX8_most_66 (by decide) ?_
      refine r_istore_2 dX8_most_71 ?_
      refine r_iinc_3 (v := (-1)) dX8_most_72 (by decide) ?_
      rw [d0m]
      refine r_goto 42 dX8_most_75 (by decide) ?_
      refine r_iload_3 dX8_most_42 ?_
      refine r_if_lt 78 dX8_most_43 (by decide) (fun c_43 => ?_) (fun c_43 => by exact absurd (by decide) c_43)
      exact mmost_end tx nc3 e1 e2 (fr.tr f1) _ _ _
    · rw [show moS t p (0 + 1) = moS t p (0) from if_neg hp]
      rw [lp_sc] at hp
      refine r_iload_3 dX8_most_42 ?_
      refine r_if_lt 78 dX8_most_43 (by decide) (fun c_43 => by exact absurd c_43 (nI_pos (by omega))) (fun c_43 => ?_)
      refine r_iload_2 dX8_most_46 ?_
      refine r_bipush (v := (-2)) dX8_most_47 (by decide) ?_
      refine r_icmp_ne 78 dX8_most_49 (by decide) (fun c_49 => by exact absurd rfl c_49) (fun c_49 => ?_)
      refine r_aload_0 dX8_most_52 ?_
      refine r_iload_3 dX8_most_53 ?_
      refine r_cWQ1 mX8_solvesShared dX8_most_54 ml_X8_440 mo_X8_solvesShared rfl (q_shared tx r h44 (n := 0) hm) (by decide) (fun h1 p1 => ?_)
      obtain ⟨⟨nc3, tc3, hd3⟩, e1, e2, f1⟩ := p1
      have r1 := r.fm f1
      refine r_aload_0 dX8_most_57 ?_
      refine r_iload_1 dX8_most_58 ?_
      refine r_cV1 mX8_isEnough dX8_most_59 ml_X8_432 mo_X8_isEnough rfl (q_isEnough tx.1 _ nc3 tc3 _ hd3 tx.2.1 p) (by decide) ?_
      rw [b2i_c lpA_dry, b2i_f hp]
      refine r_if_eq 69 dX8_most_62 (by decide) (fun c_62 => ?_) (fun c_62 => by exact absurd rfl c_62)
      refine r_bipush (v := (-2)) dX8_most_69 (by decide) ?_
      refine r_istore_2 dX8_most_71 ?_
      refine r_iinc_3 (v := (-1)) dX8_most_72 (by decide) ?_
      rw [d0m]
      refine r_goto 42 dX8_most_75 (by decide) ?_
      refine r_iload_3 dX8_most_42 ?_
      refine r_if_lt 78 dX8_most_43 (by decide) (fun c_43 => ?_) (fun c_43 => by exact absurd (by decide) c_43)
      exact mmost_end tx nc3 e1 e2 (fr.tr f1) _ _ _
  | succ m ih =>
    intro h hm r h44 h46 fr
    by_cases hp : p.toInt64 ≤ lpN (scT t (m + 1))
    · rw [show moS t p (m + 1 + 1) = nI (m + 1) from if_pos hp]
      rw [lp_sc] at hp
      refine r_iload_3 dX8_most_42 ?_
      refine r_if_lt 78 dX8_most_43 (by decide) (fun c_43 => by exact absurd c_43 (nI_pos (by omega))) (fun c_43 => ?_)
      refine r_iload_2 dX8_most_46 ?_
      refine r_bipush (v := (-2)) dX8_most_47 (by decide) ?_
      refine r_icmp_ne 78 dX8_most_49 (by decide) (fun c_49 => by exact absurd rfl c_49) (fun c_49 => ?_)
      refine r_aload_0 dX8_most_52 ?_
      refine r_iload_3 dX8_most_53 ?_
      refine r_cWQ1 mX8_solvesShared dX8_most_54 ml_X8_440 mo_X8_solvesShared rfl (q_shared tx r h44 (n := m + 1) hm) (by decide) (fun h1 p1 => ?_)
      obtain ⟨⟨nc3, tc3, hd3⟩, e1, e2, f1⟩ := p1
      have r1 := r.fm f1
      refine r_aload_0 dX8_most_57 ?_
      refine r_iload_1 dX8_most_58 ?_
      refine r_cV1 mX8_isEnough dX8_most_59 ml_X8_432 mo_X8_isEnough rfl (q_isEnough tx.1 _ nc3 tc3 _ hd3 tx.2.1 p) (by decide) ?_
      rw [b2i_c lpA_dry, b2i_t hp]
      refine r_if_eq 69 dX8_most_62 (by decide) (fun c_62 => by exact absurd c_62 (by decide)) (fun c_62 => ?_)
      refine r_iload_3 dX8_most_65 ?_
      refine r_goto 71 dX8_most_66 (by decide) ?_
      refine r_istore_2 dX8_most_71 ?_
      refine r_idecN_3 dX8_most_72 ?_
      refine r_goto 42 dX8_most_75 (by decide) ?_
      refine r_iload_3 dX8_most_42 ?_
      refine r_if_lt 78 dX8_most_43 (by decide) (fun c_43 => by exact absurd c_43 (nI_pos (by omega))) (fun c_43 => ?_)
      refine r_iload_2 dX8_most_46 ?_
      refine r_bipush (v := (-2)) dX8_most_47 (by decide) ?_
      refine r_icmp_ne 78 dX8_most_49 (by decide) (fun c_49 => ?_) (fun c_49 => by exact absurd c_49 (nI_nm2 (by omega)))
      exact mmost_end tx nc3 e1 e2 (fr.tr f1) _ _ _
    · rw [show moS t p (m + 1 + 1) = moS t p (m + 1) from if_neg hp]
      rw [lp_sc] at hp
      refine r_iload_3 dX8_most_42 ?_
      refine r_if_lt 78 dX8_most_43 (by decide) (fun c_43 => by exact absurd c_43 (nI_pos (by omega))) (fun c_43 => ?_)
      refine r_iload_2 dX8_most_46 ?_
      refine r_bipush (v := (-2)) dX8_most_47 (by decide) ?_
      refine r_icmp_ne 78 dX8_most_49 (by decide) (fun c_49 => by exact absurd rfl c_49) (fun c_49 => ?_)
      refine r_aload_0 dX8_most_52 ?_
      refine r_iload_3 dX8_most_53 ?_
      refine r_cWQ1 mX8_solvesShared dX8_most_54 ml_X8_440 mo_X8_solvesShared rfl (q_shared tx r h44 (n := m + 1) hm) (by decide) (fun h1 p1 => ?_)
      obtain ⟨⟨nc3, tc3, hd3⟩, e1, e2, f1⟩ := p1
      have r1 := r.fm f1
      refine r_aload_0 dX8_most_57 ?_
      refine r_iload_1 dX8_most_58 ?_
      refine r_cV1 mX8_isEnough dX8_most_59 ml_X8_432 mo_X8_isEnough rfl (q_isEnough tx.1 _ nc3 tc3 _ hd3 tx.2.1 p) (by decide) ?_
      rw [b2i_c lpA_dry, b2i_f hp]
      refine r_if_eq 69 dX8_most_62 (by decide) (fun c_62 => ?_) (fun c_62 => by exact absurd rfl c_62)
      refine r_bipush (v := (-2)) dX8_most_69 (by decide) ?_
      refine r_istore_2 dX8_most_71 ?_
      refine r_idecN_3 dX8_most_72 ?_
      refine r_goto 42 dX8_most_75 (by decide) ?_
      exact ih h1 (by omega) r1 e1 e2 (fr.tr f1)
set_option maxRecDepth 100000 in
set_option maxHeartbeats 4000000 in
theorem o_most {h : PH} (i : INV h) (p : Int32) : Same2 mX7_most 6 [.ref 0, .int p] mX8_most 8 [.ref 74, .int p] h := by
  have i0 := i
  obtain ⟨n0, bs, tr, fl, wp, t, nm, ac, ms, i1, i2, i3, i4, i5, i6⟩ := i
  have hb := i3.e
  have f6 : ∀ {h1 : PH} {y : Int32}, PC h y h1 → h1.1 74 6 = nI (NT.J t) := fun p => by rw [(p.kM 74 (by omega)).1]; exact i6.1
  have pr : ∀ y, PC h y (clH h y) := fun y => Fr.rf
  by_cases hJ : 0 < NT.J t
  · by_cases hv : (-30000 : Int32) ≤ p ∧ p ≤ 90000
    · obtain ⟨tx, nok, mok, sc, nac, acc, mec⟩ := (i3.k (clH_kC (x := 0))).2.2.2 hJ
      have nc : NetC (clH h 0) 15 t := sc.1
      refine ⟨.int (moS t p 301), PC h 0, fun h1 h2 => SolM h2 t (solveS (snOf t)) ∧ h2.1 74 44 = -1 ∧ h2.1 74 46 = 100 ∧ FM slS slG (rfH h1 0) h2, ?_, fun h1 q => ?_, fun h1 h2 q z => inv_paper2 i1 i2 i3 i4 i5 (by decide) q z.2.2.2 (MX.fm2 ((i6.k q.kM).rf 0) z.1 z.2.1 z.2.2.1 z.2.2.2 hJ)⟩
      · refine Con.mk (by decide) ?_
        show RT _ _ 0 [some (.ref 0), some (.int p), none, none] [] _ _
        refine r_aload_0 dX7_most_0 ?_
        refine r_cV0 mX7_hasText dX7_most_1 ml_X7_101 mo_X7_hasText rfl (k_hasText hb.1 i3.1) (by decide) ?_
        rw [b2i_t hJ]
        refine r_if_ne 13 dX7_most_4 (by decide) (fun c_4 => ?_) (fun c_4 => by exact absurd c_4 (by decide))
        refine r_iload_1 dX7_most_13 ?_
        refine r_cS1 mX7_isPressureAsked dX7_most_14 ml_X7_256 mo_X7_isPressureAsked (k_pAsked _ _) (by decide) ?_
        rw [b2i_t hv]
        refine r_if_ne 26 dX7_most_17 (by decide) (fun c_17 => ?_) (fun c_17 => by exact absurd c_17 (by decide))
        refine r_aload_0 dX7_most_26 ?_
        refine r_cW0 mX7_allow dX7_most_27 ml_X7_79 mo_X7_allow rfl (k_allow h) (by decide) ?_
        refine r_aload_0 dX7_most_30 ?_
        refine r_getR (a := 42) dX7_most_31 fl_X7_41 rfl rfl ?_
        refine r_aload_0 dX7_most_34 ?_
        refine r_getR (a := 15) dX7_most_35 fl_X7_37 rfl rfl ?_
        refine r_cWQ1 mX2_copyFrom dX7_most_38 ml_X7_83 mo_X2_copyFrom rfl (k_copy_42_15 (clH h 0)) (by decide) (fun h2 p2 => ?_)
        have nc2 : NetC h2 42 t := p2.net tx.1 nc
        have np : ∀ j, j < 10 → ¬ cpR 42 (15 + j) := fun j hj q => by have := q.1; omega
        have nc15 : NetC h2 15 t := nc.fr p2.2.2.2.2 np
        refine r_sipush (v := nI 300) dX7_most_41 (by decide) ?_
        refine r_istore_2 dX7_most_44 ?_
        exact most_loop tx p _ 300 (NT.dr t) h2 (by omega) nc15 nc2 (fun q => by omega) (p2.2.2.2.2.wk (fun _ q => cp_pap q))
      · obtain ⟨-, -, m44, m46, -, mm⟩ := (i6.k q.kM).rf 0
        obtain ⟨rwm, sm, nam, acm, mem⟩ := mm hJ
        refine Con.mk (by decide) ?_
        show RT _ _ 0 [some (.ref 74), some (.int p), none, none] [] _ _
        refine r_aload_0 dX8_most_0 ?_
        refine r_aload_0 dX8_most_1 ?_
        refine r_getI dX8_most_2 fl_X8_229 rfl ?_
        rw [f6 q]
        refine r_if_le 12 dX8_most_5 (by decide) (fun c_5 => by exact absurd c_5 (nI_nle hJ (by omega))) (fun c_5 => ?_)
        refine r_iconst (v := 1) dX8_most_8 (by decide) ?_
        refine r_goto 13 dX8_most_9 (by decide) ?_
        refine r_iload_1 dX8_most_13 ?_
        refine r_i2l dX8_most_14 ?_
        refine r_ldc2 dX8_most_15 ks_X8_424 ?_
        refine r_ldc2 dX8_most_18 ks_X8_426 ?_
        refine r_cS3 mX8_in dX8_most_21 ml_X8_131 mo_X8_in (q_in _ _ _ _) (by decide) ?_
        rw [b2i_c (in_w (a' := -30000) (b' := 90000) (by decide +kernel) (by decide +kernel)), b2i_t hv]
        refine r_cS2 mX8_unless_ dX8_most_24 ml_X8_241 mo_X8_unless_ (q_unless2 _ _ _) (by decide) ?_
        rw [show (if (1 : Int32) = 0 then (1 : Int32) else if (1 : Int32) = 0 then 2 else 0) = 0 by decide]
        refine r_cV1 mX8_isRefused dX8_most_27 ml_X8_245 mo_X8_isRefused rfl (q_isRefused _ _) (by decide) ?_
        rw [b2i_f (by decide)]
        refine r_if_eq 35 dX8_most_30 (by decide) (fun c_30 => ?_) (fun c_30 => by exact absurd rfl c_30)
        refine r_bipush (v := (-2)) dX8_most_35 (by decide) ?_
        refine r_istore_2 dX8_most_37 ?_
        refine r_sipush (v := nI 300) dX8_most_38 (by decide) ?_
        refine r_istore_3 dX8_most_41 ?_
        exact mmost_loop tx p _ 300 _ (by omega) rwm m44 m46 FM.rf
    · refine Same.to2 i0 ⟨.int (-1), 2, by decide, ?_, ?_⟩
      · refine Con.mk (by decide) ?_
        show RT _ _ 0 [some (.ref 0), some (.int p), none, none] [] _ _
        refine r_aload_0 dX7_most_0 ?_
        refine r_cV0 mX7_hasText dX7_most_1 ml_X7_101 mo_X7_hasText rfl (k_hasText hb.1 i3.1) (by decide) ?_
        rw [b2i_t hJ]
        refine r_if_ne 13 dX7_most_4 (by decide) (fun c_4 => ?_) (fun c_4 => by exact absurd c_4 (by decide))
        refine r_iload_1 dX7_most_13 ?_
        refine r_cS1 mX7_isPressureAsked dX7_most_14 ml_X7_256 mo_X7_isPressureAsked (k_pAsked _ _) (by decide) ?_
        rw [b2i_f hv]
        refine r_if_ne 26 dX7_most_17 (by decide) (fun c_17 => by exact absurd rfl c_17) (fun c_17 => ?_)
        refine r_aload_0 dX7_most_20 ?_
        refine r_iconst (v := 2) dX7_most_21 (by decide) ?_
        refine r_cV1 mX7_refuse dX7_most_22 ml_X7_65 mo_X7_refuse rfl (k_refuse h 2) (by decide) ?_
        refine r_iret dX7_most_25 rfl ?_
        exact ⟨rfl, rfl⟩
      · refine Con.mk (by decide) ?_
        show RT _ _ 0 [some (.ref 74), some (.int p), none, none] [] _ _
        refine r_aload_0 dX8_most_0 ?_
        refine r_aload_0 dX8_most_1 ?_
        refine r_getI dX8_most_2 fl_X8_229 rfl ?_
        rw [f6 (pr 2)]
        refine r_if_le 12 dX8_most_5 (by decide) (fun c_5 => by exact absurd c_5 (nI_nle hJ (by omega))) (fun c_5 => ?_)
        refine r_iconst (v := 1) dX8_most_8 (by decide) ?_
        refine r_goto 13 dX8_most_9 (by decide) ?_
        refine r_iload_1 dX8_most_13 ?_
        refine r_i2l dX8_most_14 ?_
        refine r_ldc2 dX8_most_15 ks_X8_424 ?_
        refine r_ldc2 dX8_most_18 ks_X8_426 ?_
        refine r_cS3 mX8_in dX8_most_21 ml_X8_131 mo_X8_in (q_in _ _ _ _) (by decide) ?_
        rw [b2i_c (in_w (a' := -30000) (b' := 90000) (by decide +kernel) (by decide +kernel)), b2i_f hv]
        refine r_cS2 mX8_unless_ dX8_most_24 ml_X8_241 mo_X8_unless_ (q_unless2 _ _ _) (by decide) ?_
        rw [show (if (1 : Int32) = 0 then (1 : Int32) else if (0 : Int32) = 0 then 2 else 0) = 2 by decide]
        refine r_cV1 mX8_isRefused dX8_most_27 ml_X8_245 mo_X8_isRefused rfl (q_isRefused _ _) (by decide) ?_
        rw [b2i_t (by decide)]
        refine r_if_eq 35 dX8_most_30 (by decide) (fun c_30 => by exact absurd c_30 (by decide)) (fun c_30 => ?_)
        refine r_iconst (v := (-1)) dX8_most_33 (by decide) ?_
        refine r_iret dX8_most_34 rfl ?_
        exact ⟨rfl, rfl⟩
  · have hJ0 : NT.J t = 0 := by omega
    refine Same.to2 i0 ⟨.int (-1), 1, by decide, ?_, ?_⟩
    · refine Con.mk (by decide) ?_
      show RT _ _ 0 [some (.ref 0), some (.int p), none, none] [] _ _
      refine r_aload_0 dX7_most_0 ?_
      refine r_cV0 mX7_hasText dX7_most_1 ml_X7_101 mo_X7_hasText rfl (k_hasText hb.1 i3.1) (by decide) ?_
      rw [b2i_f hJ]
      refine r_if_ne 13 dX7_most_4 (by decide) (fun c_4 => by exact absurd rfl c_4) (fun c_4 => ?_)
      refine r_aload_0 dX7_most_7 ?_
      refine r_iconst (v := 1) dX7_most_8 (by decide) ?_
      refine r_cV1 mX7_refuse dX7_most_9 ml_X7_65 mo_X7_refuse rfl (k_refuse h 1) (by decide) ?_
      refine r_iret dX7_most_12 rfl ?_
      exact ⟨rfl, rfl⟩
    · refine Con.mk (by decide) ?_
      show RT _ _ 0 [some (.ref 74), some (.int p), none, none] [] _ _
      refine r_aload_0 dX8_most_0 ?_
      refine r_aload_0 dX8_most_1 ?_
      refine r_getI dX8_most_2 fl_X8_229 rfl ?_
      rw [f6 (pr 1), hJ0]
      refine r_if_le 12 dX8_most_5 (by decide) (fun c_5 => ?_) (fun c_5 => by exact absurd (show nI 0 ≤ 0 by decide) c_5)
      refine r_iconst (v := 0) dX8_most_12 (by decide) ?_
      refine r_iload_1 dX8_most_13 ?_
      refine r_i2l dX8_most_14 ?_
      refine r_ldc2 dX8_most_15 ks_X8_424 ?_
      refine r_ldc2 dX8_most_18 ks_X8_426 ?_
      refine r_cS3 mX8_in dX8_most_21 ml_X8_131 mo_X8_in (q_in _ _ _ _) (by decide) ?_
      refine r_cS2 mX8_unless_ dX8_most_24 ml_X8_241 mo_X8_unless_ (q_unless2 _ _ _) (by decide) ?_
      rw [if_pos rfl]
      refine r_cV1 mX8_isRefused dX8_most_27 ml_X8_245 mo_X8_isRefused rfl (q_isRefused _ _) (by decide) ?_
      rw [b2i_t (by decide)]
      refine r_if_eq 35 dX8_most_30 (by decide) (fun c_30 => by exact absurd c_30 (by decide)) (fun c_30 => ?_)
      refine r_iconst (v := (-1)) dX8_most_33 (by decide) ?_
      refine r_iret dX8_most_34 rfl ?_
      exact ⟨rfl, rfl⟩

