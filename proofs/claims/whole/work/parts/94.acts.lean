/-! ===== both: draw, well, resist, valve ===== -/
theorem ActM.k {h h' : PH} {t : NT} {ac : List NT} (a : ActM h t ac) (e1 : h'.1 74 51 = h.1 74 51) (e2 : h'.1 96 = h.1 96) (e3 : h'.1 97 = h.1 97) (e4 : h'.1 98 = h.1 98) : ActM h' t ac := by unfold ActM; rw [e1, e2, e3, e4]; exact a
theorem ActM.fm {h h' : PH} {t : NT} {ac : List NT} (a : ActM h t ac) (f : FM slS slF h h') : ActM h' t ac := a.k (f.1 51 (by unfold slF; omega)) (f.2.1 96 (by decide) (by unfold slS; omega)).1 (f.2.1 97 (by decide) (by unfold slS; omega)).1 (f.2.1 98 (by decide) (by unfold slS; omega)).1
theorem raw_dr {t : NT} {j : Nat} (h0 : 0 < j) {y : Int32} {h : PH} (r : RawM h t) : RawM (pI h 76 j y) (setDr t (fupd (NT.dr t) j y)) := by
  refine r.td rfl rfl rfl (fun k _ => ⟨?_, rfl⟩) (fun e _ => ⟨rfl, rfl, rfl, rfl, rfl, rfl⟩)
  show (if k = 0 then NT.wh t else fupd (NT.dr t) j y k) = if k = j then y else (if k = 0 then NT.wh t else NT.dr t k)
  by_cases q : k = j
  · rw [if_neg (by omega), if_pos q, q, fupd_s]
  · rw [if_neg q, fupd_n q]
theorem raw_wh {t : NT} {y : Int32} {h : PH} (r : RawM h t) : RawM (pI h 76 0 y) (setWh t y) := by
  refine r.td rfl rfl rfl (fun k _ => ⟨?_, rfl⟩) (fun e _ => ⟨rfl, rfl, rfl, rfl, rfl, rfl⟩)
  show (if k = 0 then y else NT.dr t k) = if k = 0 then y else (if k = 0 then NT.wh t else NT.dr t k)
  by_cases q : k = 0
  · rw [if_pos q, if_pos q]
  · rw [if_neg q, if_neg q, if_neg q]
theorem fm44 {h h' : PH} (f : FM rmS rmF h h') : h'.1 74 44 = h.1 74 44 ∧ h'.1 74 46 = h.1 74 46 := ⟨f.1 44 (by unfold rmF; decide), f.1 46 (by unfold rmF; decide)⟩
set_option maxRecDepth 100000 in
set_option maxHeartbeats 4000000 in
theorem q_becomes {h : PH} {t t' : NT} {ac : List NT} (tx : TxOK t) (tx' : TxOK t') (r : RawM h t) (acm : ActM h t ac) (l12 : ac.length ≤ 12) (h44 : h.1 74 44 = -1) (h46 : h.1 74 46 = 100) (eJ : NT.J t' = NT.J t) (eE : NT.E t' = NT.E t) {j : Nat} (hj : j < NT.J t) {y : Int32} (rr : ∀ h', RawM h' t → RawM (pI h' 76 j y) t') : Con mX8_becomes 7 [.ref 74, .int (nI j), .int y] h (fun a h' => a = some (.int (tdM t j)) ∧ (RawM h' t' ∧ SolM h' t' (solveS (snOf t')) ∧ ActM h' t' (pushA ac t) ∧ FM acS acF h h')) := by
  have hJ9 := tx.1.2.1
  have e76 : h.1 76 j = tdM t j := (r.2.2.2.1 j hj).1
  refine Con.mk (by decide) ?_
  show RT _ _ 0 [some (.ref 74), some (.int (nI j)), some (.int y), none] [] _ _
  refine r_aload_0 dX8_becomes_0 ?_
  refine r_getR (a := 76) dX8_becomes_1 fl_X8_19 rfl rfl ?_
  refine r_iload_1 dX8_becomes_4 ?_
  refine r_ialdN dX8_becomes_5 rfl (by omega) ?_
  rw [e76]
  refine r_istore_3 dX8_becomes_6 ?_
  refine r_aload_0 dX8_becomes_7 ?_
  refine r_cWQ0 mX8_remembers dX8_becomes_8 ml_X8_480 mo_X8_remembers rfl (q_rem (t' := t') acm l12 r tx.1 eJ eE) (by decide) (fun h1 p1 => ?_)
  obtain ⟨a1, f1⟩ := p1
  have r1 := rr h1 (r.rm f1)
  have nc : NetM (pI h1 76 j y) t' := r1.net tx' ((pI_ne 74 44 (Or.inl (by decide))).trans ((fm44 f1).1.trans h44)) ((pI_ne 74 46 (Or.inl (by decide))).trans ((fm44 f1).2.trans h46))
  have a2 : ActM (pI h1 76 j y) t' (pushA ac t) := a1.k (pI_ne 74 51 (Or.inl (by decide))) (funext fun k => pI_ne 96 k (Or.inl (by decide))) (funext fun k => pI_ne 97 k (Or.inl (by decide))) (funext fun k => pI_ne 98 k (Or.inl (by decide)))
  refine r_aload_0 dX8_becomes_11 ?_
  refine r_getR (a := 76) dX8_becomes_12 fl_X8_19 rfl rfl ?_
  refine r_iload_1 dX8_becomes_15 ?_
  refine r_iload_2 dX8_becomes_16 ?_
  refine r_iastN dX8_becomes_17 rfl (by omega) ?_
  refine r_aload_0 dX8_becomes_18 ?_
  refine r_cWQ0 mX8_solves dX8_becomes_19 ml_X8_260 mo_X8_solves rfl (q_solves tx'.1 nc) (by decide) (fun h2 p2 => ?_)
  obtain ⟨s2, f2⟩ := p2
  refine r_iload_3 dX8_becomes_22 ?_
  refine r_iret dX8_becomes_23 rfl ?_
  exact ⟨rfl, r1.fm f2.toG, s2, a2.fm f2, ((fm_ac2 f1).pI (by decide) (Or.inr (Or.inr (Or.inl rfl)))).tr (fm_ac1 f2)⟩

set_option maxRecDepth 100000 in
set_option maxHeartbeats 4000000 in
theorem o_draw {h : PH} (i : INV h) (x : Int32) (n : Int32) : Same2 mX7_draw 7 [.ref 0, .int x, .int n] mX8_draw 8 [.ref 74, .int x, .int n] h := by
  have i0 := i
  obtain ⟨n0, bs, tr, fl, wp, t, nm, ac, ms, i1, i2, i3, i4, i5, i6⟩ := i
  have hb := i3.e
  have f6 : ∀ y, (clH h y).1 74 6 = nI (NT.J t) := fun y => by rw [clH_1 (by decide)]; exact i6.1
  have f7 : ∀ y, (clH h y).1 74 7 = nI (NT.E t) := fun y => by rw [clH_1 (by decide)]; exact i6.2.1
  by_cases hx : x ≠ 0 ∧ 0 ≤ x ∧ x < nI (NT.J t)
  · by_cases hn : (0 : Int32) ≤ n ∧ n ≤ 60
    · obtain ⟨j, hj, rfl⟩ := ex_nat hb.1 hx.2
      obtain ⟨m, hm, rfl⟩ := ex_le (k := 60) (by decide) hn
      have hJ : 0 < NT.J t := by omega
      have hj0 : 0 < j := Nat.pos_of_ne_zero (fun q => hx.1 (by rw [q]; rfl))
      obtain ⟨tx, nok, mok, sc, nac, acc, mec⟩ := (i3.k (clH_kC (x := 0))).2.2.2 hJ
      have ok := tx.1
      have hE14 := ok.2.2.1
      have hJ9 := ok.2.1
      have nR : ∀ j, j < 10 → ¬ acR (15 + j) := fun j hj q => by unfold acR at q; omega
      have txp : TxOK (setDr t (fupd (NT.dr t) j (nI m))) := tx.drw hj0 (by rw [nI_toInt (by omega)]; omega)
      refine ⟨.int (NT.dr t j), fun h1 => CX h1 (setDr t (fupd (NT.dr t) j (nI m))) nm (pushA ac t) ms ∧ h1.1 0 = (clH h 0).1 0 ∧ h1.1 1 = h.1 1 ∧ kM h h1, fun h1 h2 => RawM h2 (setDr t (fupd (NT.dr t) j (nI m))) ∧ SolM h2 (setDr t (fupd (NT.dr t) j (nI m))) (solveS (snOf (setDr t (fupd (NT.dr t) j (nI m))))) ∧ ActM h2 (setDr t (fupd (NT.dr t) j (nI m))) (pushA ac t) ∧ FM acS acF (rfH h1 0) h2, ?_, fun h1 q => ?_, fun h1 h2 q z => inv_act (t' := (setDr t (fupd (NT.dr t) j (nI m)))) i1 i2 i4 i5 i6 hJ rfl q z⟩
      · refine Con.mk (by decide) ?_
        show RT _ _ 0 [some (.ref 0), some (.int (nI j)), some (.int (nI m)), none] [] _ _
        refine r_aload_0 dX7_draw_0 ?_
        refine r_iload_1 dX7_draw_1 ?_
        refine r_cV1 mX7_isDrawingJoint dX7_draw_2 ml_X7_232 mo_X7_isDrawingJoint rfl (k_isDrawing hb.1 i3.1 _) (by decide) ?_
        rw [b2i_t hx]
        refine r_if_ne 14 dX7_draw_5 (by decide) (fun c_5 => ?_) (fun c_5 => by exact absurd c_5 (by decide))
        refine r_iload_2 dX7_draw_14 ?_
        refine r_if_lt 24 dX7_draw_15 (by decide) (fun c_15 => by exact absurd c_15 (nI_pos (by omega))) (fun c_15 => ?_)
        refine r_iload_2 dX7_draw_18 ?_
        refine r_bipush (v := nI 60) dX7_draw_19 (by decide) ?_
        refine r_icmpN_le 30 dX7_draw_21 (by decide) (by omega) (by omega) (fun c_21 => ?_) (fun c_21 => by omega)
        refine r_aload_0 dX7_draw_30 ?_
        refine r_cW0 mX7_allow dX7_draw_31 ml_X7_79 mo_X7_allow rfl (k_allow h) (by decide) ?_
        refine r_aload_0 dX7_draw_34 ?_
        refine r_getR (a := 15) dX7_draw_35 fl_X7_37 rfl rfl ?_
        refine r_getR (a := 17) dX7_draw_38 fl_X7_186 rfl rfl ?_
        refine r_iload_1 dX7_draw_41 ?_
        refine r_ialdN dX7_draw_42 rfl (by omega) ?_
        rw [show (clH h 0).1 17 j = NT.dr t j from (sc.1.2.2.2.2.1 j hj).1]
        refine r_istore_3 dX7_draw_43 ?_
        refine r_aload_0 dX7_draw_44 ?_
        refine r_getR (a := 68) dX7_draw_45 fl_X7_47 rfl rfl ?_
        refine r_iconst (v := 1) dX7_draw_48 (by decide) ?_
        refine r_iload_1 dX7_draw_49 ?_
        refine r_iload_3 dX7_draw_50 ?_
        refine r_cWQ3 mX0_note dX7_draw_51 ml_X7_300 mo_X0_note rfl (k_noteA acc tx (tb_dr hj0 hj (n := nI m))) (by decide) (fun h1 p1 => ?_)
        obtain ⟨a1, f1⟩ := p1
        have nc1 : NetC h1 15 t := sc.1.fr f1 nR
        refine r_aload_0 dX7_draw_54 ?_
        refine r_getR (a := 15) dX7_draw_55 fl_X7_37 rfl rfl ?_
        refine r_getR (a := 17) dX7_draw_58 fl_X7_186 rfl rfl ?_
        refine r_iload_1 dX7_draw_61 ?_
        refine r_iload_2 dX7_draw_62 ?_
        refine r_iastN dX7_draw_63 rfl (by omega) ?_
        refine r_aload_0 dX7_draw_64 ?_
        refine r_cWQ0 mX7_settle dX7_draw_65 ml_X7_95 mo_X7_settle rfl (k_settle txp.1 (nc1.dr (nI m))) (by decide) (fun h3 p3 => ?_)
        obtain ⟨s3, e3, e4, f3⟩ := p3
        refine r_iload_3 dX7_draw_68 ?_
        refine r_iret dX7_draw_69 rfl ?_
        exact ⟨rfl, act_post i3 hJ rfl txp f1 a1 (Fr.rf.pI ⟨by omega, by omega⟩) rfl s3 e3 e4 f3⟩
      · have kk := q.2.2.2
        have f6q : h1.1 74 6 = nI (NT.J t) := by rw [(kk 74 (by omega)).1]; exact i6.1
        have f7q : h1.1 74 7 = nI (NT.E t) := by rw [(kk 74 (by omega)).1]; exact i6.2.1
        obtain ⟨-, -, m44, m46, -, mm⟩ := (i6.k kk).rf 0
        obtain ⟨rwm, sm, nam, acm, mem⟩ := mm hJ
        refine Con.mk (by decide) ?_
        show RT _ _ 0 [some (.ref 74), some (.int (nI j)), some (.int (nI m))] [] _ _
        refine r_aload_0 dX8_draw_0 ?_
        refine r_aload_0 dX8_draw_1 ?_
        refine r_iload_1 dX8_draw_2 ?_
        refine r_cV1 mX8_isDrawing dX8_draw_3 ml_X8_421 mo_X8_isDrawing rfl (q_isDrawing _ hb.1 f6q _) (by decide) ?_
        rw [b2i_t hx]
        refine r_iload_2 dX8_draw_6 ?_
        refine r_i2l dX8_draw_7 ?_
        refine r_lconst (v := 0) dX8_draw_8 (by decide) ?_
        refine r_ldc2 dX8_draw_9 ks_X8_416 ?_
        refine r_cS3 mX8_in dX8_draw_12 ml_X8_131 mo_X8_in (q_in _ _ _ _) (by decide) ?_
        rw [b2i_c (in_w (a' := 0) (b' := 60) (by decide +kernel) (by decide +kernel)), b2i_t hn]
        refine r_cS2 mX8_unless_ dX8_draw_15 ml_X8_241 mo_X8_unless_ (q_unless2 _ _ _) (by decide) ?_
        rw [show (if (1 : Int32) = 0 then (1 : Int32) else if (1 : Int32) = 0 then 2 else 0) = 0 by decide]
        refine r_cV1 mX8_isRefused dX8_draw_18 ml_X8_245 mo_X8_isRefused rfl (q_isRefused _ _) (by decide) ?_
        rw [b2i_f (by decide)]
        refine r_if_eq 28 dX8_draw_21 (by decide) (fun c_21 => ?_) (fun c_21 => by exact absurd rfl c_21)
        refine r_aload_0 dX8_draw_28 ?_
        refine r_iload_1 dX8_draw_29 ?_
        refine r_iload_2 dX8_draw_30 ?_
        refine r_cVQ2 mX8_becomes dX8_draw_31 ml_X8_486 mo_X8_becomes rfl (q_becomes tx txp rwm acm acc.2.1 m44 m46 rfl rfl hj (fun h' r => raw_dr hj0 r)) (by decide) (fun h3 p3 => ?_)
        refine r_iret dX8_draw_34 rfl ?_
        exact ⟨congrArg (fun x => some (Value.int x)) (if_neg (by omega)), p3⟩
    · refine Same.to2 i0 ⟨.int (-1), 2, by decide, ?_, ?_⟩
      · refine Con.mk (by decide) ?_
        show RT _ _ 0 [some (.ref 0), some (.int x), some (.int n), none] [] _ _
        refine r_aload_0 dX7_draw_0 ?_
        refine r_iload_1 dX7_draw_1 ?_
        refine r_cV1 mX7_isDrawingJoint dX7_draw_2 ml_X7_232 mo_X7_isDrawingJoint rfl (k_isDrawing hb.1 i3.1 _) (by decide) ?_
        rw [b2i_t hx]
        refine r_if_ne 14 dX7_draw_5 (by decide) (fun c_5 => ?_) (fun c_5 => by exact absurd c_5 (by decide))
        refine r_iload_2 dX7_draw_14 ?_
        refine r_if_lt 24 dX7_draw_15 (by decide) (fun c_15 => ?_) (fun c_15 => ?_)
        · refine r_aload_0 dX7_draw_24 ?_
          refine r_iconst (v := 2) dX7_draw_25 (by decide) ?_
          refine r_cV1 mX7_refuse dX7_draw_26 ml_X7_65 mo_X7_refuse rfl (k_refuse h 2) (by decide) ?_
          refine r_iret dX7_draw_29 rfl ?_
          exact ⟨rfl, rfl⟩
        · refine r_iload_2 dX7_draw_18 ?_
          refine r_bipush (v := 60) dX7_draw_19 (by decide) ?_
          refine r_icmp_le 30 dX7_draw_21 (by decide) (fun c_21 => ?_) (fun c_21 => ?_)
          · exact absurd ⟨ge_of_nlt c_15, c_21⟩ hn
          · refine r_aload_0 dX7_draw_24 ?_
            refine r_iconst (v := 2) dX7_draw_25 (by decide) ?_
            refine r_cV1 mX7_refuse dX7_draw_26 ml_X7_65 mo_X7_refuse rfl (k_refuse h 2) (by decide) ?_
            refine r_iret dX7_draw_29 rfl ?_
            exact ⟨rfl, rfl⟩
      · refine Con.mk (by decide) ?_
        show RT _ _ 0 [some (.ref 74), some (.int x), some (.int n)] [] _ _
        refine r_aload_0 dX8_draw_0 ?_
        refine r_aload_0 dX8_draw_1 ?_
        refine r_iload_1 dX8_draw_2 ?_
        refine r_cV1 mX8_isDrawing dX8_draw_3 ml_X8_421 mo_X8_isDrawing rfl (q_isDrawing _ hb.1 (f6 2) _) (by decide) ?_
        rw [b2i_t hx]
        refine r_iload_2 dX8_draw_6 ?_
        refine r_i2l dX8_draw_7 ?_
        refine r_lconst (v := 0) dX8_draw_8 (by decide) ?_
        refine r_ldc2 dX8_draw_9 ks_X8_416 ?_
        refine r_cS3 mX8_in dX8_draw_12 ml_X8_131 mo_X8_in (q_in _ _ _ _) (by decide) ?_
        rw [b2i_c (in_w (a' := 0) (b' := 60) (by decide +kernel) (by decide +kernel)), b2i_f hn]
        refine r_cS2 mX8_unless_ dX8_draw_15 ml_X8_241 mo_X8_unless_ (q_unless2 _ _ _) (by decide) ?_
        rw [show (if (1 : Int32) = 0 then (1 : Int32) else if (0 : Int32) = 0 then 2 else 0) = 2 by decide]
        refine r_cV1 mX8_isRefused dX8_draw_18 ml_X8_245 mo_X8_isRefused rfl (q_isRefused _ _) (by decide) ?_
        rw [b2i_t (by decide)]
        refine r_if_eq 28 dX8_draw_21 (by decide) (fun c_21 => by exact absurd c_21 (by decide)) (fun c_21 => ?_)
        refine r_iconst (v := (-1)) dX8_draw_24 (by decide) ?_
        refine r_goto 34 dX8_draw_25 (by decide) ?_
        refine r_iret dX8_draw_34 rfl ?_
        exact ⟨rfl, rfl⟩
  · refine Same.to2 i0 ⟨.int (-1), 1, by decide, ?_, ?_⟩
    · refine Con.mk (by decide) ?_
      show RT _ _ 0 [some (.ref 0), some (.int x), some (.int n), none] [] _ _
      refine r_aload_0 dX7_draw_0 ?_
      refine r_iload_1 dX7_draw_1 ?_
      refine r_cV1 mX7_isDrawingJoint dX7_draw_2 ml_X7_232 mo_X7_isDrawingJoint rfl (k_isDrawing hb.1 i3.1 _) (by decide) ?_
      rw [b2i_f hx]
      refine r_if_ne 14 dX7_draw_5 (by decide) (fun c_5 => by exact absurd rfl c_5) (fun c_5 => ?_)
      refine r_aload_0 dX7_draw_8 ?_
      refine r_iconst (v := 1) dX7_draw_9 (by decide) ?_
      refine r_cV1 mX7_refuse dX7_draw_10 ml_X7_65 mo_X7_refuse rfl (k_refuse h 1) (by decide) ?_
      refine r_iret dX7_draw_13 rfl ?_
      exact ⟨rfl, rfl⟩
    · refine Con.mk (by decide) ?_
      show RT _ _ 0 [some (.ref 74), some (.int x), some (.int n)] [] _ _
      refine r_aload_0 dX8_draw_0 ?_
      refine r_aload_0 dX8_draw_1 ?_
      refine r_iload_1 dX8_draw_2 ?_
      refine r_cV1 mX8_isDrawing dX8_draw_3 ml_X8_421 mo_X8_isDrawing rfl (q_isDrawing _ hb.1 (f6 1) _) (by decide) ?_
      rw [b2i_f hx]
      refine r_iload_2 dX8_draw_6 ?_
      refine r_i2l dX8_draw_7 ?_
      refine r_lconst (v := 0) dX8_draw_8 (by decide) ?_
      refine r_ldc2 dX8_draw_9 ks_X8_416 ?_
      refine r_cS3 mX8_in dX8_draw_12 ml_X8_131 mo_X8_in (q_in _ _ _ _) (by decide) ?_
      refine r_cS2 mX8_unless_ dX8_draw_15 ml_X8_241 mo_X8_unless_ (q_unless2 _ _ _) (by decide) ?_
      rw [if_pos rfl]
      refine r_cV1 mX8_isRefused dX8_draw_18 ml_X8_245 mo_X8_isRefused rfl (q_isRefused _ _) (by decide) ?_
      rw [b2i_t (by decide)]
      refine r_if_eq 28 dX8_draw_21 (by decide) (fun c_21 => by exact absurd c_21 (by decide)) (fun c_21 => ?_)
      refine r_iconst (v := (-1)) dX8_draw_24 (by decide) ?_
      refine r_goto 34 dX8_draw_25 (by decide) ?_
      refine r_iret dX8_draw_34 rfl ?_
      exact ⟨rfl, rfl⟩

set_option maxRecDepth 100000 in
set_option maxHeartbeats 4000000 in
theorem o_well {h : PH} (i : INV h) (n : Int32) : Same2 mX7_well 7 [.ref 0, .int n] mX8_well 8 [.ref 74, .int n] h := by
  have i0 := i
  obtain ⟨n0, bs, tr, fl, wp, t, nm, ac, ms, i1, i2, i3, i4, i5, i6⟩ := i
  have hb := i3.e
  have f6 : ∀ y, (clH h y).1 74 6 = nI (NT.J t) := fun y => by rw [clH_1 (by decide)]; exact i6.1
  have f7 : ∀ y, (clH h y).1 74 7 = nI (NT.E t) := fun y => by rw [clH_1 (by decide)]; exact i6.2.1
  by_cases hJ : 0 < NT.J t
  · by_cases hn : (0 : Int32) ≤ n ∧ n ≤ 999
    · obtain ⟨m, hm, rfl⟩ := ex_le (k := 999) (by decide) hn
      obtain ⟨tx, nok, mok, sc, nac, acc, mec⟩ := (i3.k (clH_kC (x := 0))).2.2.2 hJ
      have ok := tx.1
      have hE14 := ok.2.2.1
      have hJ9 := ok.2.1
      have nR : ∀ j, j < 10 → ¬ acR (15 + j) := fun j hj q => by unfold acR at q; omega
      have txp : TxOK (setWh t (nI m)) := tx.whw (by rw [nI_toInt (by omega)]; omega)
      refine ⟨.int (NT.wh t), fun h1 => CX h1 (setWh t (nI m)) nm (pushA ac t) ms ∧ h1.1 0 = (clH h 0).1 0 ∧ h1.1 1 = h.1 1 ∧ kM h h1, fun h1 h2 => RawM h2 (setWh t (nI m)) ∧ SolM h2 (setWh t (nI m)) (solveS (snOf (setWh t (nI m)))) ∧ ActM h2 (setWh t (nI m)) (pushA ac t) ∧ FM acS acF (rfH h1 0) h2, ?_, fun h1 q => ?_, fun h1 h2 q z => inv_act (t' := (setWh t (nI m))) i1 i2 i4 i5 i6 hJ rfl q z⟩
      · refine Con.mk (by decide) ?_
        show RT _ _ 0 [some (.ref 0), some (.int (nI m)), none] [] _ _
        refine r_aload_0 dX7_well_0 ?_
        refine r_cV0 mX7_hasText dX7_well_1 ml_X7_101 mo_X7_hasText rfl (k_hasText hb.1 i3.1) (by decide) ?_
        rw [b2i_t hJ]
        refine r_if_ne 13 dX7_well_4 (by decide) (fun c_4 => ?_) (fun c_4 => by exact absurd c_4 (by decide))
        refine r_iload_1 dX7_well_13 ?_
        refine r_if_lt 24 dX7_well_14 (by decide) (fun c_14 => by exact absurd c_14 (nI_pos (by omega))) (fun c_14 => ?_)
        refine r_iload_1 dX7_well_17 ?_
        refine r_sipush (v := nI 999) dX7_well_18 (by decide) ?_
        refine r_icmpN_le 30 dX7_well_21 (by decide) (by omega) (by omega) (fun c_21 => ?_) (fun c_21 => by omega)
        refine r_aload_0 dX7_well_30 ?_
        refine r_cW0 mX7_allow dX7_well_31 ml_X7_79 mo_X7_allow rfl (k_allow h) (by decide) ?_
        refine r_aload_0 dX7_well_34 ?_
        refine r_getR (a := 15) dX7_well_35 fl_X7_37 rfl rfl ?_
        refine r_getI dX7_well_38 fl_X7_308 rfl ?_
        rw [show (clH h 0).1 15 2 = NT.wh t from sc.1.2.2.1]
        refine r_istore_2 dX7_well_41 ?_
        refine r_aload_0 dX7_well_42 ?_
        refine r_getR (a := 68) dX7_well_43 fl_X7_47 rfl rfl ?_
        refine r_iconst (v := 2) dX7_well_46 (by decide) ?_
        refine r_iconst (v := 0) dX7_well_47 (by decide) ?_
        refine r_iload_2 dX7_well_48 ?_
        refine r_cWQ3 mX0_note dX7_well_49 ml_X7_300 mo_X0_note rfl (k_noteA acc tx (tb_wh (p := 0) (n := nI m))) (by decide) (fun h1 p1 => ?_)
        obtain ⟨a1, f1⟩ := p1
        have nc1 : NetC h1 15 t := sc.1.fr f1 nR
        refine r_aload_0 dX7_well_52 ?_
        refine r_getR (a := 15) dX7_well_53 fl_X7_37 rfl rfl ?_
        refine r_iload_1 dX7_well_56 ?_
        refine r_putI dX7_well_57 fl_X7_308 rfl rfl rfl ?_
        refine r_aload_0 dX7_well_60 ?_
        refine r_cWQ0 mX7_settle dX7_well_61 ml_X7_95 mo_X7_settle rfl (k_settle txp.1 (nc1.wh (nI m))) (by decide) (fun h3 p3 => ?_)
        obtain ⟨s3, e3, e4, f3⟩ := p3
        refine r_iload_2 dX7_well_64 ?_
        refine r_iret dX7_well_65 rfl ?_
        exact ⟨rfl, act_post i3 hJ rfl txp f1 a1 (Fr.rf.pI ⟨by omega, by omega⟩) rfl s3 e3 e4 f3⟩
      · have kk := q.2.2.2
        have f6q : h1.1 74 6 = nI (NT.J t) := by rw [(kk 74 (by omega)).1]; exact i6.1
        have f7q : h1.1 74 7 = nI (NT.E t) := by rw [(kk 74 (by omega)).1]; exact i6.2.1
        obtain ⟨-, -, m44, m46, -, mm⟩ := (i6.k kk).rf 0
        obtain ⟨rwm, sm, nam, acm, mem⟩ := mm hJ
        refine Con.mk (by decide) ?_
        show RT _ _ 0 [some (.ref 74), some (.int (nI m))] [] _ _
        refine r_aload_0 dX8_well_0 ?_
        refine r_aload_0 dX8_well_1 ?_
        refine r_getI dX8_well_2 fl_X8_229 rfl ?_
        rw [f6q]
        refine r_if_le 12 dX8_well_5 (by decide) (fun c_5 => by exact absurd c_5 (nI_nle hJ (by omega))) (fun c_5 => ?_)
        refine r_iconst (v := 1) dX8_well_8 (by decide) ?_
        refine r_goto 13 dX8_well_9 (by decide) ?_
        refine r_iload_1 dX8_well_13 ?_
        refine r_i2l dX8_well_14 ?_
        refine r_lconst (v := 0) dX8_well_15 (by decide) ?_
        refine r_ldc2 dX8_well_16 ks_X8_489 ?_
        refine r_cS3 mX8_in dX8_well_19 ml_X8_131 mo_X8_in (q_in _ _ _ _) (by decide) ?_
        rw [b2i_c (in_w (a' := 0) (b' := 999) (by decide +kernel) (by decide +kernel)), b2i_t hn]
        refine r_cS2 mX8_unless_ dX8_well_22 ml_X8_241 mo_X8_unless_ (q_unless2 _ _ _) (by decide) ?_
        rw [show (if (1 : Int32) = 0 then (1 : Int32) else if (1 : Int32) = 0 then 2 else 0) = 0 by decide]
        refine r_cV1 mX8_isRefused dX8_well_25 ml_X8_245 mo_X8_isRefused rfl (q_isRefused _ _) (by decide) ?_
        rw [b2i_f (by decide)]
        refine r_if_eq 35 dX8_well_28 (by decide) (fun c_28 => ?_) (fun c_28 => by exact absurd rfl c_28)
        refine r_aload_0 dX8_well_35 ?_
        refine r_iconst (v := nI 0) dX8_well_36 (by decide) ?_
        refine r_iload_1 dX8_well_37 ?_
        refine r_cVQ2 mX8_becomes dX8_well_38 ml_X8_486 mo_X8_becomes rfl (q_becomes tx txp rwm acm acc.2.1 m44 m46 rfl rfl hJ (fun h' r => raw_wh r)) (by decide) (fun h3 p3 => ?_)
        refine r_iret dX8_well_41 rfl ?_
        exact ⟨rfl, p3⟩
    · refine Same.to2 i0 ⟨.int (-1), 2, by decide, ?_, ?_⟩
      · refine Con.mk (by decide) ?_
        show RT _ _ 0 [some (.ref 0), some (.int n), none] [] _ _
        refine r_aload_0 dX7_well_0 ?_
        refine r_cV0 mX7_hasText dX7_well_1 ml_X7_101 mo_X7_hasText rfl (k_hasText hb.1 i3.1) (by decide) ?_
        rw [b2i_t hJ]
        refine r_if_ne 13 dX7_well_4 (by decide) (fun c_4 => ?_) (fun c_4 => by exact absurd c_4 (by decide))
        refine r_iload_1 dX7_well_13 ?_
        refine r_if_lt 24 dX7_well_14 (by decide) (fun c_14 => ?_) (fun c_14 => ?_)
        · refine r_aload_0 dX7_well_24 ?_
          refine r_iconst (v := 2) dX7_well_25 (by decide) ?_
          refine r_cV1 mX7_refuse dX7_well_26 ml_X7_65 mo_X7_refuse rfl (k_refuse h 2) (by decide) ?_
          refine r_iret dX7_well_29 rfl ?_
          exact ⟨rfl, rfl⟩
        · refine r_iload_1 dX7_well_17 ?_
          refine r_sipush (v := 999) dX7_well_18 (by decide) ?_
          refine r_icmp_le 30 dX7_well_21 (by decide) (fun c_21 => ?_) (fun c_21 => ?_)
          · exact absurd ⟨ge_of_nlt c_14, c_21⟩ hn
          · refine r_aload_0 dX7_well_24 ?_
            refine r_iconst (v := 2) dX7_well_25 (by decide) ?_
            refine r_cV1 mX7_refuse dX7_well_26 ml_X7_65 mo_X7_refuse rfl (k_refuse h 2) (by decide) ?_
            refine r_iret dX7_well_29 rfl ?_
            exact ⟨rfl, rfl⟩
      · refine Con.mk (by decide) ?_
        show RT _ _ 0 [some (.ref 74), some (.int n)] [] _ _
        refine r_aload_0 dX8_well_0 ?_
        refine r_aload_0 dX8_well_1 ?_
        refine r_getI dX8_well_2 fl_X8_229 rfl ?_
        rw [f6 2]
        refine r_if_le 12 dX8_well_5 (by decide) (fun c_5 => by exact absurd c_5 (nI_nle hJ (by omega))) (fun c_5 => ?_)
        refine r_iconst (v := 1) dX8_well_8 (by decide) ?_
        refine r_goto 13 dX8_well_9 (by decide) ?_
        refine r_iload_1 dX8_well_13 ?_
        refine r_i2l dX8_well_14 ?_
        refine r_lconst (v := 0) dX8_well_15 (by decide) ?_
        refine r_ldc2 dX8_well_16 ks_X8_489 ?_
        refine r_cS3 mX8_in dX8_well_19 ml_X8_131 mo_X8_in (q_in _ _ _ _) (by decide) ?_
        rw [b2i_c (in_w (a' := 0) (b' := 999) (by decide +kernel) (by decide +kernel)), b2i_f hn]
        refine r_cS2 mX8_unless_ dX8_well_22 ml_X8_241 mo_X8_unless_ (q_unless2 _ _ _) (by decide) ?_
        rw [show (if (1 : Int32) = 0 then (1 : Int32) else if (0 : Int32) = 0 then 2 else 0) = 2 by decide]
        refine r_cV1 mX8_isRefused dX8_well_25 ml_X8_245 mo_X8_isRefused rfl (q_isRefused _ _) (by decide) ?_
        rw [b2i_t (by decide)]
        refine r_if_eq 35 dX8_well_28 (by decide) (fun c_28 => by exact absurd c_28 (by decide)) (fun c_28 => ?_)
        refine r_iconst (v := (-1)) dX8_well_31 (by decide) ?_
        refine r_goto 41 dX8_well_32 (by decide) ?_
        refine r_iret dX8_well_41 rfl ?_
        exact ⟨rfl, rfl⟩
  · have hJ0 : NT.J t = 0 := by omega
    refine Same.to2 i0 ⟨.int (-1), 1, by decide, ?_, ?_⟩
    · refine Con.mk (by decide) ?_
      show RT _ _ 0 [some (.ref 0), some (.int n), none] [] _ _
      refine r_aload_0 dX7_well_0 ?_
      refine r_cV0 mX7_hasText dX7_well_1 ml_X7_101 mo_X7_hasText rfl (k_hasText hb.1 i3.1) (by decide) ?_
      rw [b2i_f hJ]
      refine r_if_ne 13 dX7_well_4 (by decide) (fun c_4 => by exact absurd rfl c_4) (fun c_4 => ?_)
      refine r_aload_0 dX7_well_7 ?_
      refine r_iconst (v := 1) dX7_well_8 (by decide) ?_
      refine r_cV1 mX7_refuse dX7_well_9 ml_X7_65 mo_X7_refuse rfl (k_refuse h 1) (by decide) ?_
      refine r_iret dX7_well_12 rfl ?_
      exact ⟨rfl, rfl⟩
    · refine Con.mk (by decide) ?_
      show RT _ _ 0 [some (.ref 74), some (.int n)] [] _ _
      refine r_aload_0 dX8_well_0 ?_
      refine r_aload_0 dX8_well_1 ?_
      refine r_getI dX8_well_2 fl_X8_229 rfl ?_
      rw [f6 1, hJ0]
      refine r_if_le 12 dX8_well_5 (by decide) (fun c_5 => ?_) (fun c_5 => by exact absurd (show nI 0 ≤ 0 by decide) c_5)
      refine r_iconst (v := 0) dX8_well_12 (by decide) ?_
      refine r_iload_1 dX8_well_13 ?_
      refine r_i2l dX8_well_14 ?_
      refine r_lconst (v := 0) dX8_well_15 (by decide) ?_
      refine r_ldc2 dX8_well_16 ks_X8_489 ?_
      refine r_cS3 mX8_in dX8_well_19 ml_X8_131 mo_X8_in (q_in _ _ _ _) (by decide) ?_
      refine r_cS2 mX8_unless_ dX8_well_22 ml_X8_241 mo_X8_unless_ (q_unless2 _ _ _) (by decide) ?_
      rw [if_pos rfl]
      refine r_cV1 mX8_isRefused dX8_well_25 ml_X8_245 mo_X8_isRefused rfl (q_isRefused _ _) (by decide) ?_
      rw [b2i_t (by decide)]
      refine r_if_eq 35 dX8_well_28 (by decide) (fun c_28 => by exact absurd c_28 (by decide)) (fun c_28 => ?_)
      refine r_iconst (v := (-1)) dX8_well_31 (by decide) ?_
      refine r_goto 41 dX8_well_32 (by decide) ?_
      refine r_iret dX8_well_41 rfl ?_
      exact ⟨rfl, rfl⟩

set_option maxRecDepth 100000 in
set_option maxHeartbeats 4000000 in
theorem o_resist {h : PH} (i : INV h) (x : Int32) (n : Int32) : Same2 mX7_resist 7 [.ref 0, .int x, .int n] mX8_resist 7 [.ref 74, .int x, .int n] h := by
  have i0 := i
  obtain ⟨n0, bs, tr, fl, wp, t, nm, ac, ms, i1, i2, i3, i4, i5, i6⟩ := i
  have hb := i3.e
  have f6 : ∀ y, (clH h y).1 74 6 = nI (NT.J t) := fun y => by rw [clH_1 (by decide)]; exact i6.1
  have f7 : ∀ y, (clH h y).1 74 7 = nI (NT.E t) := fun y => by rw [clH_1 (by decide)]; exact i6.2.1
  have kd0 : ∀ {h1 : PH}, 0 < NT.J t → kM h h1 → ∀ e, e < NT.E t → h1.1 81 e = NT.kd t e := fun {h1} hJ kk e he => (((i6.k kk).2.2.2.2.2 hJ).1.2.2.2.2 e he).2.2.1
  by_cases hx : 0 ≤ x ∧ x < nI (NT.E t)
  · obtain ⟨e, he, rfl⟩ := ex_nat hb.2 hx
    have hJ : 0 < NT.J t := i3.je he
    obtain ⟨tx, nok, mok, sc, nac, acc, mec⟩ := (i3.k (clH_kC (x := 0))).2.2.2 hJ
    have ok := tx.1
    have hE14 := ok.2.2.1
    have hJ9 := ok.2.1
    have nR : ∀ j, j < 10 → ¬ acR (15 + j) := fun j hj q => by unfold acR at q; omega
    have ek : h.1 21 e = NT.kd t e := (((i3.2.2.2 hJ).2.2.2.1.1).2.2.2.2.2 e he).2.2.1
    by_cases hk : NT.kd t e = 2
    · refine Same.to2 i0 ⟨.int (-1), 5, by decide, ?_, ?_⟩
      · refine Con.mk (by decide) ?_
        show RT _ _ 0 [some (.ref 0), some (.int (nI e)), some (.int n), none] [] _ _
        refine r_aload_0 dX7_resist_0 ?_
        refine r_getR (a := 15) dX7_resist_1 fl_X7_37 rfl rfl ?_
        refine r_iload_1 dX7_resist_4 ?_
        refine r_cV1 mX2_hasEdge dX7_resist_5 ml_X7_137 mo_X2_hasEdge rfl (k_X2_hasEdge isN15 h (nI e)) (by decide) ?_
        rw [i3.2.1, b2i_t hx]
        refine r_if_ne 17 dX7_resist_8 (by decide) (fun c_8 => ?_) (fun c_8 => by exact absurd c_8 (by decide))
        refine r_aload_0 dX7_resist_17 ?_
        refine r_getR (a := 15) dX7_resist_18 fl_X7_37 rfl rfl ?_
        refine r_getR (a := 21) dX7_resist_21 fl_X7_148 rfl rfl ?_
        refine r_iload_1 dX7_resist_24 ?_
        refine r_ialdN dX7_resist_25 rfl (by omega) ?_
        rw [show h.1 21 e = NT.kd t e from ek]
        refine r_iconst (v := 2) dX7_resist_26 (by decide) ?_
        refine r_icmp_ne 36 dX7_resist_27 (by decide) (fun c_27 => by exact absurd hk c_27) (fun c_27 => ?_)
        refine r_aload_0 dX7_resist_30 ?_
        refine r_iconst (v := 5) dX7_resist_31 (by decide) ?_
        refine r_cV1 mX7_refuse dX7_resist_32 ml_X7_65 mo_X7_refuse rfl (k_refuse h 5) (by decide) ?_
        refine r_iret dX7_resist_35 rfl ?_
        exact ⟨rfl, rfl⟩
      · refine Con.mk (by decide) ?_
        show RT _ _ 0 [some (.ref 74), some (.int (nI e)), some (.int n), none, none] [] _ _
        refine r_aload_0 dX8_resist_0 ?_
        refine r_iload_1 dX8_resist_1 ?_
        refine r_cV1 mX8_isEdge dX8_resist_2 ml_X8_317 mo_X8_isEdge rfl (q_isEdge _ hb.2 (f7 5) _) (by decide) ?_
        refine r_cS1 mX8_unless dX8_resist_5 ml_X8_330 mo_X8_unless (q_unless _ _) (by decide) ?_
        rw [goods hx]
        refine r_istore_3 dX8_resist_8 ?_
        refine r_aload_0 dX8_resist_9 ?_
        refine r_iload_3 dX8_resist_10 ?_
        refine r_if_eq 18 dX8_resist_11 (by decide) (fun c_11 => ?_) (fun c_11 => by exact absurd rfl c_11)
        refine r_aload_0 dX8_resist_18 ?_
        refine r_getR (a := 81) dX8_resist_19 fl_X8_34 rfl rfl ?_
        refine r_iload_1 dX8_resist_22 ?_
        refine r_ialdN dX8_resist_23 rfl (by omega) ?_
        rw [kd0 hJ clH_kM e he]
        refine r_iconst (v := 2) dX8_resist_24 (by decide) ?_
        refine r_icmp_ne 32 dX8_resist_25 (by decide) (fun c_25 => by exact absurd hk c_25) (fun c_25 => ?_)
        refine r_iconst (v := 5) dX8_resist_28 (by decide) ?_
        refine r_goto 49 dX8_resist_29 (by decide) ?_
        refine r_cV1 mX8_isRefused dX8_resist_49 ml_X8_245 mo_X8_isRefused rfl (q_isRefused _ _) (by decide) ?_
        rw [b2i_t (by decide)]
        refine r_if_eq 57 dX8_resist_52 (by decide) (fun c_52 => by exact absurd c_52 (by decide)) (fun c_52 => ?_)
        refine r_iconst (v := (-1)) dX8_resist_55 (by decide) ?_
        refine r_iret dX8_resist_56 rfl ?_
        exact ⟨rfl, rfl⟩
    · by_cases hn : (1 : Int32) ≤ n ∧ n ≤ 20
      · have hn' : 1 ≤ n.toInt ∧ n.toInt ≤ 20 := by
          have e1 : (1 : Int32).toInt = 1 := by decide +kernel
          have e2 : (20 : Int32).toInt = 20 := by decide +kernel
          have := hn.1; have := hn.2; rw [fa_le] at *; omega
        have txp : TxOK (setRs t (fupd (NT.rs t) e n)) := tx.rsw hn'
        refine ⟨.int (NT.rs t e), fun h1 => CX h1 (setRs t (fupd (NT.rs t) e n)) nm (pushA ac t) ms ∧ h1.1 0 = (clH h 0).1 0 ∧ h1.1 1 = h.1 1 ∧ kM h h1, fun h1 h2 => RawM h2 (setRs t (fupd (NT.rs t) e n)) ∧ SolM h2 (setRs t (fupd (NT.rs t) e n)) (solveS (snOf (setRs t (fupd (NT.rs t) e n)))) ∧ ActM h2 (setRs t (fupd (NT.rs t) e n)) (pushA ac t) ∧ FM acS acF (rfH h1 0) h2, ?_, fun h1 q => ?_, fun h1 h2 q z => inv_act (t' := (setRs t (fupd (NT.rs t) e n))) i1 i2 i4 i5 i6 hJ rfl q z⟩
        · refine Con.mk (by decide) ?_
          show RT _ _ 0 [some (.ref 0), some (.int (nI e)), some (.int n), none] [] _ _
          refine r_aload_0 dX7_resist_0 ?_
          refine r_getR (a := 15) dX7_resist_1 fl_X7_37 rfl rfl ?_
          refine r_iload_1 dX7_resist_4 ?_
          refine r_cV1 mX2_hasEdge dX7_resist_5 ml_X7_137 mo_X2_hasEdge rfl (k_X2_hasEdge isN15 h (nI e)) (by decide) ?_
          rw [i3.2.1, b2i_t hx]
          refine r_if_ne 17 dX7_resist_8 (by decide) (fun c_8 => ?_) (fun c_8 => by exact absurd c_8 (by decide))
          refine r_aload_0 dX7_resist_17 ?_
          refine r_getR (a := 15) dX7_resist_18 fl_X7_37 rfl rfl ?_
          refine r_getR (a := 21) dX7_resist_21 fl_X7_148 rfl rfl ?_
          refine r_iload_1 dX7_resist_24 ?_
          refine r_ialdN dX7_resist_25 rfl (by omega) ?_
          rw [show h.1 21 e = NT.kd t e from ek]
          refine r_iconst (v := 2) dX7_resist_26 (by decide) ?_
          refine r_icmp_ne 36 dX7_resist_27 (by decide) (fun c_27 => ?_) (fun c_27 => by exact absurd c_27 hk)
          refine r_iload_2 dX7_resist_36 ?_
          refine r_iconst (v := 1) dX7_resist_37 (by decide) ?_
          refine r_icmp_lt 47 dX7_resist_38 (by decide) (fun c_38 => by exact absurd c_38 (nlt_of_ge hn.1)) (fun c_38 => ?_)
          refine r_iload_2 dX7_resist_41 ?_
          refine r_bipush (v := 20) dX7_resist_42 (by decide) ?_
          refine r_icmp_le 53 dX7_resist_44 (by decide) (fun c_44 => ?_) (fun c_44 => by exact absurd hn.2 c_44)
          refine r_aload_0 dX7_resist_53 ?_
          refine r_cW0 mX7_allow dX7_resist_54 ml_X7_79 mo_X7_allow rfl (k_allow h) (by decide) ?_
          refine r_aload_0 dX7_resist_57 ?_
          refine r_getR (a := 15) dX7_resist_58 fl_X7_37 rfl rfl ?_
          refine r_getR (a := 22) dX7_resist_61 fl_X7_151 rfl rfl ?_
          refine r_iload_1 dX7_resist_64 ?_
          refine r_ialdN dX7_resist_65 rfl (by omega) ?_
          rw [show (clH h 0).1 22 e = NT.rs t e from (sc.1.2.2.2.2.2 e he).2.2.2.1 hk]
          refine r_istore_3 dX7_resist_66 ?_
          refine r_aload_0 dX7_resist_67 ?_
          refine r_getR (a := 68) dX7_resist_68 fl_X7_47 rfl rfl ?_
          refine r_iconst (v := 3) dX7_resist_71 (by decide) ?_
          refine r_iload_1 dX7_resist_72 ?_
          refine r_iload_3 dX7_resist_73 ?_
          refine r_cWQ3 mX0_note dX7_resist_74 ml_X7_300 mo_X0_note rfl (k_noteA acc tx (tb_rs he hk (n := n))) (by decide) (fun h1 p1 => ?_)
          obtain ⟨a1, f1⟩ := p1
          have nc1 : NetC h1 15 t := sc.1.fr f1 nR
          refine r_aload_0 dX7_resist_77 ?_
          refine r_getR (a := 15) dX7_resist_78 fl_X7_37 rfl rfl ?_
          refine r_getR (a := 22) dX7_resist_81 fl_X7_151 rfl rfl ?_
          refine r_iload_1 dX7_resist_84 ?_
          refine r_iload_2 dX7_resist_85 ?_
          refine r_iastN dX7_resist_86 rfl (by omega) ?_
          refine r_aload_0 dX7_resist_87 ?_
          refine r_cWQ0 mX7_settle dX7_resist_88 ml_X7_95 mo_X7_settle rfl (k_settle txp.1 (nc1.rsw n)) (by decide) (fun h3 p3 => ?_)
          obtain ⟨s3, e3, e4, f3⟩ := p3
          refine r_iload_3 dX7_resist_91 ?_
          refine r_iret dX7_resist_92 rfl ?_
          exact ⟨rfl, act_post i3 hJ rfl txp f1 a1 (Fr.rf.pI ⟨by omega, by omega⟩) rfl s3 e3 e4 f3⟩
        · have kk := q.2.2.2
          have f6q : h1.1 74 6 = nI (NT.J t) := by rw [(kk 74 (by omega)).1]; exact i6.1
          have f7q : h1.1 74 7 = nI (NT.E t) := by rw [(kk 74 (by omega)).1]; exact i6.2.1
          obtain ⟨-, -, m44, m46, -, mm⟩ := (i6.k kk).rf 0
          obtain ⟨rwm, sm, nam, acm, mem⟩ := mm hJ
          refine Con.mk (by decide) ?_
          show RT _ _ 0 [some (.ref 74), some (.int (nI e)), some (.int n), none, none] [] _ _
          refine r_aload_0 dX8_resist_0 ?_
          refine r_iload_1 dX8_resist_1 ?_
          refine r_cV1 mX8_isEdge dX8_resist_2 ml_X8_317 mo_X8_isEdge rfl (q_isEdge _ hb.2 f7q _) (by decide) ?_
          refine r_cS1 mX8_unless dX8_resist_5 ml_X8_330 mo_X8_unless (q_unless _ _) (by decide) ?_
          rw [goods hx]
          refine r_istore_3 dX8_resist_8 ?_
          refine r_aload_0 dX8_resist_9 ?_
          refine r_iload_3 dX8_resist_10 ?_
          refine r_if_eq 18 dX8_resist_11 (by decide) (fun c_11 => ?_) (fun c_11 => by exact absurd rfl c_11)
          refine r_aload_0 dX8_resist_18 ?_
          refine r_getR (a := 81) dX8_resist_19 fl_X8_34 rfl rfl ?_
          refine r_iload_1 dX8_resist_22 ?_
          refine r_ialdN dX8_resist_23 rfl (by omega) ?_
          rw [kd0 hJ kk e he]
          refine r_iconst (v := 2) dX8_resist_24 (by decide) ?_
          refine r_icmp_ne 32 dX8_resist_25 (by decide) (fun c_25 => ?_) (fun c_25 => by exact absurd c_25 hk)
          refine r_iload_2 dX8_resist_32 ?_
          refine r_i2l dX8_resist_33 ?_
          refine r_lconst (v := 1) dX8_resist_34 (by decide) ?_
          refine r_ldc2 dX8_resist_35 ks_X8_491 ?_
          refine r_cS3 mX8_in dX8_resist_38 ml_X8_131 mo_X8_in (q_in _ _ _ _) (by decide) ?_
          rw [b2i_c (in_w (a' := 1) (b' := 20) (by decide +kernel) (by decide +kernel)), b2i_t hn]
          refine r_if_eq 48 dX8_resist_41 (by decide) (fun c_41 => by exact absurd c_41 (by decide)) (fun c_41 => ?_)
          refine r_iconst (v := 0) dX8_resist_44 (by decide) ?_
          refine r_goto 49 dX8_resist_45 (by decide) ?_
          refine r_cV1 mX8_isRefused dX8_resist_49 ml_X8_245 mo_X8_isRefused rfl (q_isRefused _ _) (by decide) ?_
          rw [b2i_f (by decide)]
          refine r_if_eq 57 dX8_resist_52 (by decide) (fun c_52 => ?_) (fun c_52 => by exact absurd rfl c_52)
          refine r_aload_0 dX8_resist_57 ?_
          refine r_getR (a := 82) dX8_resist_58 fl_X8_37 rfl rfl ?_
          refine r_iload_1 dX8_resist_61 ?_
          refine r_ialdN dX8_resist_62 rfl (by omega) ?_
          rw [show (rfH h1 0).1 82 e = NT.rs t e from (rwm.2.2.2.2 e he).2.2.2.1.trans (if_neg hk)]
          refine r_istore_4 dX8_resist_63 ?_
          refine r_aload_0 dX8_resist_65 ?_
          refine r_cWQ0 mX8_remembers dX8_resist_66 ml_X8_480 mo_X8_remembers rfl (q_rem (t' := (setRs t (fupd (NT.rs t) e n))) acm acc.2.1 rwm ok rfl rfl) (by decide) (fun h3 p3 => ?_)
          obtain ⟨a3, f3⟩ := p3
          have r3 := (rwm.rm f3).rs hk n
          have nc3 : NetM (pI h3 82 e n) (setRs t (fupd (NT.rs t) e n)) := r3.net txp ((pI_ne 74 44 (Or.inl (by decide))).trans ((fm44 f3).1.trans m44)) ((pI_ne 74 46 (Or.inl (by decide))).trans ((fm44 f3).2.trans m46))
          have a4 : ActM (pI h3 82 e n) (setRs t (fupd (NT.rs t) e n)) (pushA ac t) := a3.k (pI_ne 74 51 (Or.inl (by decide))) (funext fun k => pI_ne 96 k (Or.inl (by decide))) (funext fun k => pI_ne 97 k (Or.inl (by decide))) (funext fun k => pI_ne 98 k (Or.inl (by decide)))
          refine r_aload_0 dX8_resist_69 ?_
          refine r_getR (a := 82) dX8_resist_70 fl_X8_37 rfl rfl ?_
          refine r_iload_1 dX8_resist_73 ?_
          refine r_iload_2 dX8_resist_74 ?_
          refine r_iastN dX8_resist_75 rfl (by omega) ?_
          refine r_aload_0 dX8_resist_76 ?_
          refine r_cWQ0 mX8_solves dX8_resist_77 ml_X8_260 mo_X8_solves rfl (q_solves txp.1 nc3) (by decide) (fun h4 p4 => ?_)
          obtain ⟨s4, f4⟩ := p4
          refine r_iload_4 dX8_resist_80 ?_
          refine r_iret dX8_resist_82 rfl ?_
          exact ⟨rfl, r3.fm f4.toG, s4, a4.fm f4, ((fm_ac2 f3).pI (by decide) (Or.inr (Or.inr (Or.inr rfl)))).tr (fm_ac1 f4)⟩
      · refine Same.to2 i0 ⟨.int (-1), 2, by decide, ?_, ?_⟩
        · refine Con.mk (by decide) ?_
          show RT _ _ 0 [some (.ref 0), some (.int (nI e)), some (.int n), none] [] _ _
          refine r_aload_0 dX7_resist_0 ?_
          refine r_getR (a := 15) dX7_resist_1 fl_X7_37 rfl rfl ?_
          refine r_iload_1 dX7_resist_4 ?_
          refine r_cV1 mX2_hasEdge dX7_resist_5 ml_X7_137 mo_X2_hasEdge rfl (k_X2_hasEdge isN15 h (nI e)) (by decide) ?_
          rw [i3.2.1, b2i_t hx]
          refine r_if_ne 17 dX7_resist_8 (by decide) (fun c_8 => ?_) (fun c_8 => by exact absurd c_8 (by decide))
          refine r_aload_0 dX7_resist_17 ?_
          refine r_getR (a := 15) dX7_resist_18 fl_X7_37 rfl rfl ?_
          refine r_getR (a := 21) dX7_resist_21 fl_X7_148 rfl rfl ?_
          refine r_iload_1 dX7_resist_24 ?_
          refine r_ialdN dX7_resist_25 rfl (by omega) ?_
          rw [show h.1 21 e = NT.kd t e from ek]
          refine r_iconst (v := 2) dX7_resist_26 (by decide) ?_
          refine r_icmp_ne 36 dX7_resist_27 (by decide) (fun c_27 => ?_) (fun c_27 => by exact absurd c_27 hk)
          refine r_iload_2 dX7_resist_36 ?_
          refine r_iconst (v := 1) dX7_resist_37 (by decide) ?_
          refine r_icmp_lt 47 dX7_resist_38 (by decide) (fun c_38 => ?_) (fun c_38 => ?_)
          · refine r_aload_0 dX7_resist_47 ?_
            refine r_iconst (v := 2) dX7_resist_48 (by decide) ?_
            refine r_cV1 mX7_refuse dX7_resist_49 ml_X7_65 mo_X7_refuse rfl (k_refuse h 2) (by decide) ?_
            refine r_iret dX7_resist_52 rfl ?_
            exact ⟨rfl, rfl⟩
          · refine r_iload_2 dX7_resist_41 ?_
            refine r_bipush (v := 20) dX7_resist_42 (by decide) ?_
            refine r_icmp_le 53 dX7_resist_44 (by decide) (fun c_44 => ?_) (fun c_44 => ?_)
            · exact absurd ⟨ge_of_nlt c_38, c_44⟩ hn
            · refine r_aload_0 dX7_resist_47 ?_
              refine r_iconst (v := 2) dX7_resist_48 (by decide) ?_
              refine r_cV1 mX7_refuse dX7_resist_49 ml_X7_65 mo_X7_refuse rfl (k_refuse h 2) (by decide) ?_
              refine r_iret dX7_resist_52 rfl ?_
              exact ⟨rfl, rfl⟩
        · refine Con.mk (by decide) ?_
          show RT _ _ 0 [some (.ref 74), some (.int (nI e)), some (.int n), none, none] [] _ _
          refine r_aload_0 dX8_resist_0 ?_
          refine r_iload_1 dX8_resist_1 ?_
          refine r_cV1 mX8_isEdge dX8_resist_2 ml_X8_317 mo_X8_isEdge rfl (q_isEdge _ hb.2 (f7 2) _) (by decide) ?_
          refine r_cS1 mX8_unless dX8_resist_5 ml_X8_330 mo_X8_unless (q_unless _ _) (by decide) ?_
          rw [goods hx]
          refine r_istore_3 dX8_resist_8 ?_
          refine r_aload_0 dX8_resist_9 ?_
          refine r_iload_3 dX8_resist_10 ?_
          refine r_if_eq 18 dX8_resist_11 (by decide) (fun c_11 => ?_) (fun c_11 => by exact absurd rfl c_11)
          refine r_aload_0 dX8_resist_18 ?_
          refine r_getR (a := 81) dX8_resist_19 fl_X8_34 rfl rfl ?_
          refine r_iload_1 dX8_resist_22 ?_
          refine r_ialdN dX8_resist_23 rfl (by omega) ?_
          rw [kd0 hJ clH_kM e he]
          refine r_iconst (v := 2) dX8_resist_24 (by decide) ?_
          refine r_icmp_ne 32 dX8_resist_25 (by decide) (fun c_25 => ?_) (fun c_25 => by exact absurd c_25 hk)
          refine r_iload_2 dX8_resist_32 ?_
          refine r_i2l dX8_resist_33 ?_
          refine r_lconst (v := 1) dX8_resist_34 (by decide) ?_
          refine r_ldc2 dX8_resist_35 ks_X8_491 ?_
          refine r_cS3 mX8_in dX8_resist_38 ml_X8_131 mo_X8_in (q_in _ _ _ _) (by decide) ?_
          rw [b2i_c (in_w (a' := 1) (b' := 20) (by decide +kernel) (by decide +kernel)), b2i_f hn]
          refine r_if_eq 48 dX8_resist_41 (by decide) (fun c_41 => ?_) (fun c_41 => by exact absurd rfl c_41)
          refine r_iconst (v := 2) dX8_resist_48 (by decide) ?_
          refine r_cV1 mX8_isRefused dX8_resist_49 ml_X8_245 mo_X8_isRefused rfl (q_isRefused _ _) (by decide) ?_
          rw [b2i_t (by decide)]
          refine r_if_eq 57 dX8_resist_52 (by decide) (fun c_52 => by exact absurd c_52 (by decide)) (fun c_52 => ?_)
          refine r_iconst (v := (-1)) dX8_resist_55 (by decide) ?_
          refine r_iret dX8_resist_56 rfl ?_
          exact ⟨rfl, rfl⟩
  · refine Same.to2 i0 ⟨.int (-1), 1, by decide, ?_, ?_⟩
    · refine Con.mk (by decide) ?_
      show RT _ _ 0 [some (.ref 0), some (.int x), some (.int n), none] [] _ _
      refine r_aload_0 dX7_resist_0 ?_
      refine r_getR (a := 15) dX7_resist_1 fl_X7_37 rfl rfl ?_
      refine r_iload_1 dX7_resist_4 ?_
      refine r_cV1 mX2_hasEdge dX7_resist_5 ml_X7_137 mo_X2_hasEdge rfl (k_X2_hasEdge isN15 h x) (by decide) ?_
      rw [i3.2.1, b2i_f hx]
      refine r_if_ne 17 dX7_resist_8 (by decide) (fun c_8 => by exact absurd rfl c_8) (fun c_8 => ?_)
      refine r_aload_0 dX7_resist_11 ?_
      refine r_iconst (v := 1) dX7_resist_12 (by decide) ?_
      refine r_cV1 mX7_refuse dX7_resist_13 ml_X7_65 mo_X7_refuse rfl (k_refuse h 1) (by decide) ?_
      refine r_iret dX7_resist_16 rfl ?_
      exact ⟨rfl, rfl⟩
    · refine Con.mk (by decide) ?_
      show RT _ _ 0 [some (.ref 74), some (.int x), some (.int n), none, none] [] _ _
      refine r_aload_0 dX8_resist_0 ?_
      refine r_iload_1 dX8_resist_1 ?_
      refine r_cV1 mX8_isEdge dX8_resist_2 ml_X8_317 mo_X8_isEdge rfl (q_isEdge _ hb.2 (f7 1) _) (by decide) ?_
      refine r_cS1 mX8_unless dX8_resist_5 ml_X8_330 mo_X8_unless (q_unless _ _) (by decide) ?_
      rw [bads hx]
      refine r_istore_3 dX8_resist_8 ?_
      refine r_aload_0 dX8_resist_9 ?_
      refine r_iload_3 dX8_resist_10 ?_
      refine r_if_eq 18 dX8_resist_11 (by decide) (fun c_11 => by exact absurd c_11 (by decide)) (fun c_11 => ?_)
      refine r_iload_3 dX8_resist_14 ?_
      refine r_goto 49 dX8_resist_15 (by decide) ?_
      refine r_cV1 mX8_isRefused dX8_resist_49 ml_X8_245 mo_X8_isRefused rfl (q_isRefused _ _) (by decide) ?_
      rw [b2i_t (by decide)]
      refine r_if_eq 57 dX8_resist_52 (by decide) (fun c_52 => by exact absurd c_52 (by decide)) (fun c_52 => ?_)
      refine r_iconst (v := (-1)) dX8_resist_55 (by decide) ?_
      refine r_iret dX8_resist_56 rfl ?_
      exact ⟨rfl, rfl⟩

set_option maxRecDepth 100000 in
set_option maxHeartbeats 4000000 in
theorem o_valve {h : PH} (i : INV h) (x : Int32) (z : Int32) : Same2 mX7_valve 7 [.ref 0, .int x, .int z] mX8_valve 7 [.ref 74, .int x, .int z] h := by
  have i0 := i
  obtain ⟨n0, bs, tr, fl, wp, t, nm, ac, ms, i1, i2, i3, i4, i5, i6⟩ := i
  have hb := i3.e
  have f6 : ∀ y, (clH h y).1 74 6 = nI (NT.J t) := fun y => by rw [clH_1 (by decide)]; exact i6.1
  have f7 : ∀ y, (clH h y).1 74 7 = nI (NT.E t) := fun y => by rw [clH_1 (by decide)]; exact i6.2.1
  have cl0 : ∀ {h1 : PH}, 0 < NT.J t → kM h h1 → h1.1 74 17 = NT.cl t := fun {h1} hJ kk => ((i6.k kk).2.2.2.2.2 hJ).1.2.2.1
  by_cases hx : 0 ≤ x ∧ x < nI (NT.E t)
  · obtain ⟨e, he, rfl⟩ := ex_nat hb.2 hx
    have hJ : 0 < NT.J t := i3.je he
    obtain ⟨tx, nok, mok, sc, nac, acc, mec⟩ := (i3.k (clH_kC (x := 0))).2.2.2 hJ
    have ok := tx.1
    have hE14 := ok.2.2.1
    have hJ9 := ok.2.1
    have nR : ∀ j, j < 10 → ¬ acR (15 + j) := fun j hj q => by unfold acR at q; omega
    have ek : h.1 15 3 = NT.cl t := (i3.2.2.2 hJ).2.2.2.1.1.2.2.2.1
    have txp : TxOK (setCl t (NT.cl t ^^^ ((1 : Int32) <<< (nI e &&& 31)))) := tx.clw (fun i h1 h2 => by rw [b_xor, b_one (by omega) h2, tx.2.2.2.2 i h1 h2]; simp; omega)
    have act : ∀ (go : ((z = 0 ∧ bt (NT.cl t) e = true) ∨ (z ≠ 0 ∧ ¬ bt (NT.cl t) e = true))), Same2 mX7_valve 7 [.ref 0, .int (nI e), .int z] mX8_valve 7 [.ref 74, .int (nI e), .int z] h := fun go => by
      refine ⟨.int (onS (dryS (NT.J t) (trS (snOf (setCl t (NT.cl t ^^^ ((1 : Int32) <<< (nI e &&& 31))))) (solveS (snOf (setCl t (NT.cl t ^^^ ((1 : Int32) <<< (nI e &&& 31)))))).1)) 16 0 0), fun h1 => CX h1 (setCl t (NT.cl t ^^^ ((1 : Int32) <<< (nI e &&& 31)))) nm (pushA ac t) ms ∧ h1.1 0 = (clH h 0).1 0 ∧ h1.1 1 = h.1 1 ∧ kM h h1, fun h1 h2 => RawM h2 (setCl t (NT.cl t ^^^ ((1 : Int32) <<< (nI e &&& 31)))) ∧ SolM h2 (setCl t (NT.cl t ^^^ ((1 : Int32) <<< (nI e &&& 31)))) (solveS (snOf (setCl t (NT.cl t ^^^ ((1 : Int32) <<< (nI e &&& 31)))))) ∧ ActM h2 (setCl t (NT.cl t ^^^ ((1 : Int32) <<< (nI e &&& 31)))) (pushA ac t) ∧ FM acS acF (rfH h1 0) h2, ?_, fun h1 q => ?_, fun h1 h2 q z => inv_act (t' := (setCl t (NT.cl t ^^^ ((1 : Int32) <<< (nI e &&& 31))))) i1 i2 i4 i5 i6 hJ rfl q z⟩
      · rcases go with ⟨hz, hc⟩ | ⟨hz, hc⟩
        · refine Con.mk (by decide) ?_
          show RT _ _ 0 [some (.ref 0), some (.int (nI e)), some (.int z), none] [] _ _
          refine r_aload_0 dX7_valve_0 ?_
          refine r_getR (a := 15) dX7_valve_1 fl_X7_37 rfl rfl ?_
          refine r_iload_1 dX7_valve_4 ?_
          refine r_cV1 mX2_hasEdge dX7_valve_5 ml_X7_137 mo_X2_hasEdge rfl (k_X2_hasEdge isN15 h (nI e)) (by decide) ?_
          rw [i3.2.1, b2i_t hx]
          refine r_if_ne 17 dX7_valve_8 (by decide) (fun c_8 => ?_) (fun c_8 => by exact absurd c_8 (by decide))
          refine r_aload_0 dX7_valve_17 ?_
          refine r_getR (a := 15) dX7_valve_18 fl_X7_37 rfl rfl ?_
          refine r_getI dX7_valve_21 fl_X7_154 rfl ?_
          rw [ek]
          refine r_iload_1 dX7_valve_24 ?_
          refine r_cS2 mX7_bit dX7_valve_25 ml_X7_157 mo_X7_bit (k_bit _ _ (j := e) (by omega)) (by decide) ?_
          skip
          refine r_istore_3 dX7_valve_28 ?_
          skip
          refine r_iload_3 dX7_valve_29 ?_
          refine r_iload_2 dX7_valve_30 ?_
          refine r_if_eq 38 dX7_valve_31 (by decide) (fun c_31 => ?_) (fun c_31 => by exact absurd hz c_31)
          refine r_iconst (v := 0) dX7_valve_38 (by decide) ?_
          refine r_icmp_ne 48 dX7_valve_39 (by decide) (fun c_39 => ?_) (fun c_39 => by exact absurd c_39 (by rw [b2i_t hc]; decide))
          refine r_aload_0 dX7_valve_48 ?_
          refine r_cW0 mX7_allow dX7_valve_49 ml_X7_79 mo_X7_allow rfl (k_allow h) (by decide) ?_
          refine r_aload_0 dX7_valve_52 ?_
          refine r_getR (a := 68) dX7_valve_53 fl_X7_47 rfl rfl ?_
          refine r_iconst (v := 0) dX7_valve_56 (by decide) ?_
          refine r_iload_1 dX7_valve_57 ?_
          refine r_iload_3 dX7_valve_58 ?_
          refine r_cWQ3 mX0_note dX7_valve_59 ml_X7_300 mo_X0_note rfl (k_noteA acc tx (tb_cl he hE14)) (by decide) (fun h1 p1 => ?_)
          obtain ⟨a1, f1⟩ := p1
          have nc1 : NetC h1 15 t := sc.1.fr f1 nR
          refine r_aload_0 dX7_valve_62 ?_
          refine r_getR (a := 15) dX7_valve_63 fl_X7_37 rfl rfl ?_
          refine r_dupr dX7_valve_66 ?_
          refine r_getI dX7_valve_67 fl_X7_154 rfl ?_
          rw [show h1.1 15 3 = NT.cl t from nc1.2.2.2.1]
          refine r_iconst (v := 1) dX7_valve_70 (by decide) ?_
          refine r_iload_1 dX7_valve_71 ?_
          refine r_ishl dX7_valve_72 ?_
          refine r_ixor dX7_valve_73 ?_
          refine r_putI dX7_valve_74 fl_X7_154 rfl rfl rfl ?_
          refine r_aload_0 dX7_valve_77 ?_
          refine r_cWQ0 mX7_settle dX7_valve_78 ml_X7_95 mo_X7_settle rfl (k_settle txp.1 (nc1.cl (NT.cl t ^^^ ((1 : Int32) <<< (nI e &&& 31))))) (by decide) (fun h3 p3 => ?_)
          obtain ⟨s3, e3, e4, f3⟩ := p3
          refine r_aload_0 dX7_valve_81 ?_
          refine r_getR (a := 14) dX7_valve_82 fl_X7_29 rfl rfl ?_
          refine r_cV0 mX6_dryJoints dX7_valve_85 ml_X7_129 mo_X6_dryJoints rfl (k_dry isW14 txp.1 _ s3.1 s3.2.2.2.2.2.1) (by decide) ?_
          refine r_cS1 mJ6_bitCount_0f7a4 dX7_valve_88 ml_X7_303 mo_J6_bitCount_0f7a4 (k_bitCount _ _) (by decide) ?_
          rw [bc_eq (fun i h1 h2 => by rw [dryS_b txp.1.2.1 h2, decide_eq_false (by have := txp.1.2.1; omega)]; rfl)]
          refine r_iret dX7_valve_91 rfl ?_
          exact ⟨rfl, act_post i3 hJ rfl txp f1 a1 (Fr.rf.pI ⟨by omega, by omega⟩) rfl s3 e3 e4 f3⟩
        · refine Con.mk (by decide) ?_
          show RT _ _ 0 [some (.ref 0), some (.int (nI e)), some (.int z), none] [] _ _
          refine r_aload_0 dX7_valve_0 ?_
          refine r_getR (a := 15) dX7_valve_1 fl_X7_37 rfl rfl ?_
          refine r_iload_1 dX7_valve_4 ?_
          refine r_cV1 mX2_hasEdge dX7_valve_5 ml_X7_137 mo_X2_hasEdge rfl (k_X2_hasEdge isN15 h (nI e)) (by decide) ?_
          rw [i3.2.1, b2i_t hx]
          refine r_if_ne 17 dX7_valve_8 (by decide) (fun c_8 => ?_) (fun c_8 => by exact absurd c_8 (by decide))
          refine r_aload_0 dX7_valve_17 ?_
          refine r_getR (a := 15) dX7_valve_18 fl_X7_37 rfl rfl ?_
          refine r_getI dX7_valve_21 fl_X7_154 rfl ?_
          rw [ek]
          refine r_iload_1 dX7_valve_24 ?_
          refine r_cS2 mX7_bit dX7_valve_25 ml_X7_157 mo_X7_bit (k_bit _ _ (j := e) (by omega)) (by decide) ?_
          refine r_istore_3 dX7_valve_28 ?_
          refine r_iload_3 dX7_valve_29 ?_
          refine r_iload_2 dX7_valve_30 ?_
          refine r_if_eq 38 dX7_valve_31 (by decide) (fun c_31 => by exact absurd c_31 hz) (fun c_31 => ?_)
          refine r_iconst (v := 1) dX7_valve_34 (by decide) ?_
          refine r_goto 39 dX7_valve_35 (by decide) ?_
          refine r_icmp_ne 48 dX7_valve_39 (by decide) (fun c_39 => ?_) (fun c_39 => by exact absurd c_39 (by rw [b2i_f hc]; decide))
          refine r_aload_0 dX7_valve_48 ?_
          refine r_cW0 mX7_allow dX7_valve_49 ml_X7_79 mo_X7_allow rfl (k_allow h) (by decide) ?_
          refine r_aload_0 dX7_valve_52 ?_
          refine r_getR (a := 68) dX7_valve_53 fl_X7_47 rfl rfl ?_
          refine r_iconst (v := 0) dX7_valve_56 (by decide) ?_
          refine r_iload_1 dX7_valve_57 ?_
          refine r_iload_3 dX7_valve_58 ?_
          refine r_cWQ3 mX0_note dX7_valve_59 ml_X7_300 mo_X0_note rfl (k_noteA acc tx (tb_cl he hE14)) (by decide) (fun h1 p1 => ?_)
          obtain ⟨a1, f1⟩ := p1
          have nc1 : NetC h1 15 t := sc.1.fr f1 nR
          refine r_aload_0 dX7_valve_62 ?_
          refine r_getR (a := 15) dX7_valve_63 fl_X7_37 rfl rfl ?_
          refine r_dupr dX7_valve_66 ?_
          refine r_getI dX7_valve_67 fl_X7_154 rfl ?_
          rw [show h1.1 15 3 = NT.cl t from nc1.2.2.2.1]
          refine r_iconst (v := 1) dX7_valve_70 (by decide) ?_
          refine r_iload_1 dX7_valve_71 ?_
          refine r_ishl dX7_valve_72 ?_
          refine r_ixor dX7_valve_73 ?_
          refine r_putI dX7_valve_74 fl_X7_154 rfl rfl rfl ?_
          refine r_aload_0 dX7_valve_77 ?_
          refine r_cWQ0 mX7_settle dX7_valve_78 ml_X7_95 mo_X7_settle rfl (k_settle txp.1 (nc1.cl (NT.cl t ^^^ ((1 : Int32) <<< (nI e &&& 31))))) (by decide) (fun h3 p3 => ?_)
          obtain ⟨s3, e3, e4, f3⟩ := p3
          refine r_aload_0 dX7_valve_81 ?_
          refine r_getR (a := 14) dX7_valve_82 fl_X7_29 rfl rfl ?_
          refine r_cV0 mX6_dryJoints dX7_valve_85 ml_X7_129 mo_X6_dryJoints rfl (k_dry isW14 txp.1 _ s3.1 s3.2.2.2.2.2.1) (by decide) ?_
          refine r_cS1 mJ6_bitCount_0f7a4 dX7_valve_88 ml_X7_303 mo_J6_bitCount_0f7a4 (k_bitCount _ _) (by decide) ?_
          rw [bc_eq (fun i h1 h2 => by rw [dryS_b txp.1.2.1 h2, decide_eq_false (by have := txp.1.2.1; omega)]; rfl)]
          refine r_iret dX7_valve_91 rfl ?_
          exact ⟨rfl, act_post i3 hJ rfl txp f1 a1 (Fr.rf.pI ⟨by omega, by omega⟩) rfl s3 e3 e4 f3⟩
      · have kk := q.2.2.2
        have f6q : h1.1 74 6 = nI (NT.J t) := by rw [(kk 74 (by omega)).1]; exact i6.1
        have f7q : h1.1 74 7 = nI (NT.E t) := by rw [(kk 74 (by omega)).1]; exact i6.2.1
        obtain ⟨-, -, m44, m46, -, mm⟩ := (i6.k kk).rf 0
        obtain ⟨rwm, sm, nam, acm, mem⟩ := mm hJ
        rcases go with ⟨hz, hc⟩ | ⟨hz, hc⟩
        · refine Con.mk (by decide) ?_
          show RT _ _ 0 [some (.ref 74), some (.int (nI e)), some (.int z), none] [] _ _
          refine r_aload_0 dX8_valve_0 ?_
          refine r_iload_1 dX8_valve_1 ?_
          refine r_cV1 mX8_isEdge dX8_valve_2 ml_X8_317 mo_X8_isEdge rfl (q_isEdge _ hb.2 f7q _) (by decide) ?_
          refine r_cS1 mX8_unless dX8_valve_5 ml_X8_330 mo_X8_unless (q_unless _ _) (by decide) ?_
          rw [goods hx]
          refine r_istore_3 dX8_valve_8 ?_
          refine r_aload_0 dX8_valve_9 ?_
          refine r_iload_3 dX8_valve_10 ?_
          refine r_if_eq 18 dX8_valve_11 (by decide) (fun c_11 => ?_) (fun c_11 => by exact absurd rfl c_11)
          refine r_aload_0 dX8_valve_18 ?_
          refine r_getI dX8_valve_19 fl_X8_235 rfl ?_
          rw [cl0 hJ kk]
          refine r_iload_1 dX8_valve_22 ?_
          refine r_ishr dX8_valve_23 ?_
          refine r_iconst (v := 1) dX8_valve_24 (by decide) ?_
          refine r_iand dX8_valve_25 ?_
          rw [bit_eq _ (by omega)]
          refine r_iload_2 dX8_valve_26 ?_
          refine r_if_eq 34 dX8_valve_27 (by decide) (fun c_27 => ?_) (fun c_27 => by exact absurd hz c_27)
          refine r_iconst (v := 0) dX8_valve_34 (by decide) ?_
          refine r_icmp_ne 42 dX8_valve_35 (by decide) (fun c_35 => ?_) (fun c_35 => by exact absurd c_35 (by rw [b2i_t hc]; decide))
          refine r_iconst (v := 0) dX8_valve_42 (by decide) ?_
          refine r_cV1 mX8_isRefused dX8_valve_43 ml_X8_245 mo_X8_isRefused rfl (q_isRefused _ _) (by decide) ?_
          rw [b2i_f (by decide)]
          refine r_if_eq 51 dX8_valve_46 (by decide) (fun c_46 => ?_) (fun c_46 => by exact absurd rfl c_46)
          refine r_aload_0 dX8_valve_51 ?_
          refine r_cWQ0 mX8_remembers dX8_valve_52 ml_X8_480 mo_X8_remembers rfl (q_rem (t' := (setCl t (NT.cl t ^^^ ((1 : Int32) <<< (nI e &&& 31))))) acm acc.2.1 rwm ok rfl rfl) (by decide) (fun h3 p3 => ?_)
          obtain ⟨a3, f3⟩ := p3
          have r2 := rwm.rm f3
          have r3 := r2.cl (NT.cl t ^^^ ((1 : Int32) <<< (nI e &&& 31)))
          have nc3 : NetM (pI h3 74 17 (NT.cl t ^^^ ((1 : Int32) <<< (nI e &&& 31)))) (setCl t (NT.cl t ^^^ ((1 : Int32) <<< (nI e &&& 31)))) := r3.net txp ((pI_ne 74 44 (Or.inr (by decide))).trans ((fm44 f3).1.trans m44)) ((pI_ne 74 46 (Or.inr (by decide))).trans ((fm44 f3).2.trans m46))
          have a4 : ActM (pI h3 74 17 (NT.cl t ^^^ ((1 : Int32) <<< (nI e &&& 31)))) (setCl t (NT.cl t ^^^ ((1 : Int32) <<< (nI e &&& 31)))) (pushA ac t) := a3.k (pI_ne 74 51 (Or.inr (by decide))) (funext fun k => pI_ne 96 k (Or.inl (by decide))) (funext fun k => pI_ne 97 k (Or.inl (by decide))) (funext fun k => pI_ne 98 k (Or.inl (by decide)))
          refine r_aload_0 dX8_valve_55 ?_
          refine r_dupr dX8_valve_56 ?_
          refine r_getI dX8_valve_57 fl_X8_235 rfl ?_
          rw [r2.2.2.1]
          refine r_iconst (v := 1) dX8_valve_60 (by decide) ?_
          refine r_iload_1 dX8_valve_61 ?_
          refine r_ishl dX8_valve_62 ?_
          refine r_ixor dX8_valve_63 ?_
          refine r_putI dX8_valve_64 fl_X8_235 rfl rfl rfl ?_
          refine r_aload_0 dX8_valve_67 ?_
          refine r_cWQ0 mX8_solves dX8_valve_68 ml_X8_260 mo_X8_solves rfl (q_solves txp.1 nc3) (by decide) (fun h4 p4 => ?_)
          obtain ⟨s4, f4⟩ := p4
          refine r_aload_0 dX8_valve_71 ?_
          refine r_cV0 mX8_dryBits dX8_valve_72 ml_X8_391 mo_X8_dryBits rfl (q_dry txp.1 _ s4.1 s4.2.2.2.2.2.1) (by decide) ?_
          refine r_cS1 mX8_ones dX8_valve_75 ml_X8_483 mo_X8_ones (q_ones _ _) (by decide) ?_
          refine r_iret dX8_valve_78 rfl ?_
          exact ⟨rfl, r3.fm f4.toG, s4, a4.fm f4, ((fm_ac2 f3).pF (Or.inr (Or.inr rfl))).tr (fm_ac1 f4)⟩
        · refine Con.mk (by decide) ?_
          show RT _ _ 0 [some (.ref 74), some (.int (nI e)), some (.int z), none] [] _ _
          refine r_aload_0 dX8_valve_0 ?_
          refine r_iload_1 dX8_valve_1 ?_
          refine r_cV1 mX8_isEdge dX8_valve_2 ml_X8_317 mo_X8_isEdge rfl (q_isEdge _ hb.2 f7q _) (by decide) ?_
          refine r_cS1 mX8_unless dX8_valve_5 ml_X8_330 mo_X8_unless (q_unless _ _) (by decide) ?_
          rw [goods hx]
          refine r_istore_3 dX8_valve_8 ?_
          refine r_aload_0 dX8_valve_9 ?_
          refine r_iload_3 dX8_valve_10 ?_
          refine r_if_eq 18 dX8_valve_11 (by decide) (fun c_11 => ?_) (fun c_11 => by exact absurd rfl c_11)
          refine r_aload_0 dX8_valve_18 ?_
          refine r_getI dX8_valve_19 fl_X8_235 rfl ?_
          rw [cl0 hJ kk]
          refine r_iload_1 dX8_valve_22 ?_
          refine r_ishr dX8_valve_23 ?_
          refine r_iconst (v := 1) dX8_valve_24 (by decide) ?_
          refine r_iand dX8_valve_25 ?_
          rw [bit_eq _ (by omega)]
          refine r_iload_2 dX8_valve_26 ?_
          refine r_if_eq 34 dX8_valve_27 (by decide) (fun c_27 => by exact absurd c_27 hz) (fun c_27 => ?_)
          refine r_iconst (v := 1) dX8_valve_30 (by decide) ?_
          refine r_goto 35 dX8_valve_31 (by decide) ?_
          refine r_icmp_ne 42 dX8_valve_35 (by decide) (fun c_35 => ?_) (fun c_35 => by exact absurd c_35 (by rw [b2i_f hc]; decide))
          refine r_iconst (v := 0) dX8_valve_42 (by decide) ?_
          refine r_cV1 mX8_isRefused dX8_valve_43 ml_X8_245 mo_X8_isRefused rfl (q_isRefused _ _) (by decide) ?_
          rw [b2i_f (by decide)]
          refine r_if_eq 51 dX8_valve_46 (by decide) (fun c_46 => ?_) (fun c_46 => by exact absurd rfl c_46)
          refine r_aload_0 dX8_valve_51 ?_
          refine r_cWQ0 mX8_remembers dX8_valve_52 ml_X8_480 mo_X8_remembers rfl (q_rem (t' := (setCl t (NT.cl t ^^^ ((1 : Int32) <<< (nI e &&& 31))))) acm acc.2.1 rwm ok rfl rfl) (by decide) (fun h3 p3 => ?_)
          obtain ⟨a3, f3⟩ := p3
          have r2 := rwm.rm f3
          have r3 := r2.cl (NT.cl t ^^^ ((1 : Int32) <<< (nI e &&& 31)))
          have nc3 : NetM (pI h3 74 17 (NT.cl t ^^^ ((1 : Int32) <<< (nI e &&& 31)))) (setCl t (NT.cl t ^^^ ((1 : Int32) <<< (nI e &&& 31)))) := r3.net txp ((pI_ne 74 44 (Or.inr (by decide))).trans ((fm44 f3).1.trans m44)) ((pI_ne 74 46 (Or.inr (by decide))).trans ((fm44 f3).2.trans m46))
          have a4 : ActM (pI h3 74 17 (NT.cl t ^^^ ((1 : Int32) <<< (nI e &&& 31)))) (setCl t (NT.cl t ^^^ ((1 : Int32) <<< (nI e &&& 31)))) (pushA ac t) := a3.k (pI_ne 74 51 (Or.inr (by decide))) (funext fun k => pI_ne 96 k (Or.inl (by decide))) (funext fun k => pI_ne 97 k (Or.inl (by decide))) (funext fun k => pI_ne 98 k (Or.inl (by decide)))
          refine r_aload_0 dX8_valve_55 ?_
          refine r_dupr dX8_valve_56 ?_
          refine r_getI dX8_valve_57 fl_X8_235 rfl ?_
          rw [r2.2.2.1]
          refine r_iconst (v := 1) dX8_valve_60 (by decide) ?_
          refine r_iload_1 dX8_valve_61 ?_
          refine r_ishl dX8_valve_62 ?_
          refine r_ixor dX8_valve_63 ?_
          refine r_putI dX8_valve_64 fl_X8_235 rfl rfl rfl ?_
          refine r_aload_0 dX8_valve_67 ?_
          refine r_cWQ0 mX8_solves dX8_valve_68 ml_X8_260 mo_X8_solves rfl (q_solves txp.1 nc3) (by decide) (fun h4 p4 => ?_)
          obtain ⟨s4, f4⟩ := p4
          refine r_aload_0 dX8_valve_71 ?_
          refine r_cV0 mX8_dryBits dX8_valve_72 ml_X8_391 mo_X8_dryBits rfl (q_dry txp.1 _ s4.1 s4.2.2.2.2.2.1) (by decide) ?_
          refine r_cS1 mX8_ones dX8_valve_75 ml_X8_483 mo_X8_ones (q_ones _ _) (by decide) ?_
          refine r_iret dX8_valve_78 rfl ?_
          exact ⟨rfl, r3.fm f4.toG, s4, a4.fm f4, ((fm_ac2 f3).pF (Or.inr (Or.inr rfl))).tr (fm_ac1 f4)⟩
    by_cases hz : z = 0
    · by_cases hc : bt (NT.cl t) e = true
      · exact act (Or.inl ⟨hz, hc⟩)
      · refine Same.to2 i0 ⟨.int (-1), 5, by decide, ?_, ?_⟩
        · refine Con.mk (by decide) ?_
          show RT _ _ 0 [some (.ref 0), some (.int (nI e)), some (.int z), none] [] _ _
          refine r_aload_0 dX7_valve_0 ?_
          refine r_getR (a := 15) dX7_valve_1 fl_X7_37 rfl rfl ?_
          refine r_iload_1 dX7_valve_4 ?_
          refine r_cV1 mX2_hasEdge dX7_valve_5 ml_X7_137 mo_X2_hasEdge rfl (k_X2_hasEdge isN15 h (nI e)) (by decide) ?_
          rw [i3.2.1, b2i_t hx]
          refine r_if_ne 17 dX7_valve_8 (by decide) (fun c_8 => ?_) (fun c_8 => by exact absurd c_8 (by decide))
          refine r_aload_0 dX7_valve_17 ?_
          refine r_getR (a := 15) dX7_valve_18 fl_X7_37 rfl rfl ?_
          refine r_getI dX7_valve_21 fl_X7_154 rfl ?_
          rw [ek]
          refine r_iload_1 dX7_valve_24 ?_
          refine r_cS2 mX7_bit dX7_valve_25 ml_X7_157 mo_X7_bit (k_bit _ _ (j := e) (by omega)) (by decide) ?_
          refine r_istore_3 dX7_valve_28 ?_
          refine r_iload_3 dX7_valve_29 ?_
          refine r_iload_2 dX7_valve_30 ?_
          refine r_if_eq 38 dX7_valve_31 (by decide) (fun c_31 => ?_) (fun c_31 => by exact absurd hz c_31)
          refine r_iconst (v := 0) dX7_valve_38 (by decide) ?_
          refine r_icmp_ne 48 dX7_valve_39 (by decide) (fun c_39 => by exact absurd (by rw [b2i_f hc]) c_39) (fun c_39 => ?_)
          refine r_aload_0 dX7_valve_42 ?_
          refine r_iconst (v := 5) dX7_valve_43 (by decide) ?_
          refine r_cV1 mX7_refuse dX7_valve_44 ml_X7_65 mo_X7_refuse rfl (k_refuse h 5) (by decide) ?_
          refine r_iret dX7_valve_47 rfl ?_
          exact ⟨rfl, rfl⟩
        · refine Con.mk (by decide) ?_
          show RT _ _ 0 [some (.ref 74), some (.int (nI e)), some (.int z), none] [] _ _
          refine r_aload_0 dX8_valve_0 ?_
          refine r_iload_1 dX8_valve_1 ?_
          refine r_cV1 mX8_isEdge dX8_valve_2 ml_X8_317 mo_X8_isEdge rfl (q_isEdge _ hb.2 (f7 5) _) (by decide) ?_
          refine r_cS1 mX8_unless dX8_valve_5 ml_X8_330 mo_X8_unless (q_unless _ _) (by decide) ?_
          rw [goods hx]
          refine r_istore_3 dX8_valve_8 ?_
          refine r_aload_0 dX8_valve_9 ?_
          refine r_iload_3 dX8_valve_10 ?_
          refine r_if_eq 18 dX8_valve_11 (by decide) (fun c_11 => ?_) (fun c_11 => by exact absurd rfl c_11)
          refine r_aload_0 dX8_valve_18 ?_
          refine r_getI dX8_valve_19 fl_X8_235 rfl ?_
          rw [cl0 hJ clH_kM]
          refine r_iload_1 dX8_valve_22 ?_
          refine r_ishr dX8_valve_23 ?_
          refine r_iconst (v := 1) dX8_valve_24 (by decide) ?_
          refine r_iand dX8_valve_25 ?_
          rw [bit_eq _ (by omega)]
          refine r_iload_2 dX8_valve_26 ?_
          refine r_if_eq 34 dX8_valve_27 (by decide) (fun c_27 => ?_) (fun c_27 => by exact absurd hz c_27)
          refine r_iconst (v := 0) dX8_valve_34 (by decide) ?_
          refine r_icmp_ne 42 dX8_valve_35 (by decide) (fun c_35 => by exact absurd (by rw [b2i_f hc]) c_35) (fun c_35 => ?_)
          refine r_iconst (v := 5) dX8_valve_38 (by decide) ?_
          refine r_goto 43 dX8_valve_39 (by decide) ?_
          refine r_cV1 mX8_isRefused dX8_valve_43 ml_X8_245 mo_X8_isRefused rfl (q_isRefused _ _) (by decide) ?_
          rw [b2i_t (by decide)]
          refine r_if_eq 51 dX8_valve_46 (by decide) (fun c_46 => by exact absurd c_46 (by decide)) (fun c_46 => ?_)
          refine r_iconst (v := (-1)) dX8_valve_49 (by decide) ?_
          refine r_iret dX8_valve_50 rfl ?_
          exact ⟨rfl, rfl⟩
    · by_cases hc : bt (NT.cl t) e = true
      · refine Same.to2 i0 ⟨.int (-1), 5, by decide, ?_, ?_⟩
        · refine Con.mk (by decide) ?_
          show RT _ _ 0 [some (.ref 0), some (.int (nI e)), some (.int z), none] [] _ _
          refine r_aload_0 dX7_valve_0 ?_
          refine r_getR (a := 15) dX7_valve_1 fl_X7_37 rfl rfl ?_
          refine r_iload_1 dX7_valve_4 ?_
          refine r_cV1 mX2_hasEdge dX7_valve_5 ml_X7_137 mo_X2_hasEdge rfl (k_X2_hasEdge isN15 h (nI e)) (by decide) ?_
          rw [i3.2.1, b2i_t hx]
          refine r_if_ne 17 dX7_valve_8 (by decide) (fun c_8 => ?_) (fun c_8 => by exact absurd c_8 (by decide))
          refine r_aload_0 dX7_valve_17 ?_
          refine r_getR (a := 15) dX7_valve_18 fl_X7_37 rfl rfl ?_
          refine r_getI dX7_valve_21 fl_X7_154 rfl ?_
          rw [ek]
          refine r_iload_1 dX7_valve_24 ?_
          refine r_cS2 mX7_bit dX7_valve_25 ml_X7_157 mo_X7_bit (k_bit _ _ (j := e) (by omega)) (by decide) ?_
          refine r_istore_3 dX7_valve_28 ?_
          refine r_iload_3 dX7_valve_29 ?_
          refine r_iload_2 dX7_valve_30 ?_
          refine r_if_eq 38 dX7_valve_31 (by decide) (fun c_31 => by exact absurd c_31 hz) (fun c_31 => ?_)
          refine r_iconst (v := 1) dX7_valve_34 (by decide) ?_
          refine r_goto 39 dX7_valve_35 (by decide) ?_
          refine r_icmp_ne 48 dX7_valve_39 (by decide) (fun c_39 => by exact absurd (by rw [b2i_t hc]) c_39) (fun c_39 => ?_)
          refine r_aload_0 dX7_valve_42 ?_
          refine r_iconst (v := 5) dX7_valve_43 (by decide) ?_
          refine r_cV1 mX7_refuse dX7_valve_44 ml_X7_65 mo_X7_refuse rfl (k_refuse h 5) (by decide) ?_
          refine r_iret dX7_valve_47 rfl ?_
          exact ⟨rfl, rfl⟩
        · refine Con.mk (by decide) ?_
          show RT _ _ 0 [some (.ref 74), some (.int (nI e)), some (.int z), none] [] _ _
          refine r_aload_0 dX8_valve_0 ?_
          refine r_iload_1 dX8_valve_1 ?_
          refine r_cV1 mX8_isEdge dX8_valve_2 ml_X8_317 mo_X8_isEdge rfl (q_isEdge _ hb.2 (f7 5) _) (by decide) ?_
          refine r_cS1 mX8_unless dX8_valve_5 ml_X8_330 mo_X8_unless (q_unless _ _) (by decide) ?_
          rw [goods hx]
          refine r_istore_3 dX8_valve_8 ?_
          refine r_aload_0 dX8_valve_9 ?_
          refine r_iload_3 dX8_valve_10 ?_
          refine r_if_eq 18 dX8_valve_11 (by decide) (fun c_11 => ?_) (fun c_11 => by exact absurd rfl c_11)
          refine r_aload_0 dX8_valve_18 ?_
          refine r_getI dX8_valve_19 fl_X8_235 rfl ?_
          rw [cl0 hJ clH_kM]
          refine r_iload_1 dX8_valve_22 ?_
          refine r_ishr dX8_valve_23 ?_
          refine r_iconst (v := 1) dX8_valve_24 (by decide) ?_
          refine r_iand dX8_valve_25 ?_
          rw [bit_eq _ (by omega)]
          refine r_iload_2 dX8_valve_26 ?_
          refine r_if_eq 34 dX8_valve_27 (by decide) (fun c_27 => by exact absurd c_27 hz) (fun c_27 => ?_)
          refine r_iconst (v := 1) dX8_valve_30 (by decide) ?_
          refine r_goto 35 dX8_valve_31 (by decide) ?_
          refine r_icmp_ne 42 dX8_valve_35 (by decide) (fun c_35 => by exact absurd (by rw [b2i_t hc]) c_35) (fun c_35 => ?_)
          refine r_iconst (v := 5) dX8_valve_38 (by decide) ?_
          refine r_goto 43 dX8_valve_39 (by decide) ?_
          refine r_cV1 mX8_isRefused dX8_valve_43 ml_X8_245 mo_X8_isRefused rfl (q_isRefused _ _) (by decide) ?_
          rw [b2i_t (by decide)]
          refine r_if_eq 51 dX8_valve_46 (by decide) (fun c_46 => by exact absurd c_46 (by decide)) (fun c_46 => ?_)
          refine r_iconst (v := (-1)) dX8_valve_49 (by decide) ?_
          refine r_iret dX8_valve_50 rfl ?_
          exact ⟨rfl, rfl⟩
      · exact act (Or.inr ⟨hz, hc⟩)
  · refine Same.to2 i0 ⟨.int (-1), 1, by decide, ?_, ?_⟩
    · refine Con.mk (by decide) ?_
      show RT _ _ 0 [some (.ref 0), some (.int x), some (.int z), none] [] _ _
      refine r_aload_0 dX7_valve_0 ?_
      refine r_getR (a := 15) dX7_valve_1 fl_X7_37 rfl rfl ?_
      refine r_iload_1 dX7_valve_4 ?_
      refine r_cV1 mX2_hasEdge dX7_valve_5 ml_X7_137 mo_X2_hasEdge rfl (k_X2_hasEdge isN15 h x) (by decide) ?_
      rw [i3.2.1, b2i_f hx]
      refine r_if_ne 17 dX7_valve_8 (by decide) (fun c_8 => by exact absurd rfl c_8) (fun c_8 => ?_)
      refine r_aload_0 dX7_valve_11 ?_
      refine r_iconst (v := 1) dX7_valve_12 (by decide) ?_
      refine r_cV1 mX7_refuse dX7_valve_13 ml_X7_65 mo_X7_refuse rfl (k_refuse h 1) (by decide) ?_
      refine r_iret dX7_valve_16 rfl ?_
      exact ⟨rfl, rfl⟩
    · refine Con.mk (by decide) ?_
      show RT _ _ 0 [some (.ref 74), some (.int x), some (.int z), none] [] _ _
      refine r_aload_0 dX8_valve_0 ?_
      refine r_iload_1 dX8_valve_1 ?_
      refine r_cV1 mX8_isEdge dX8_valve_2 ml_X8_317 mo_X8_isEdge rfl (q_isEdge _ hb.2 (f7 1) _) (by decide) ?_
      refine r_cS1 mX8_unless dX8_valve_5 ml_X8_330 mo_X8_unless (q_unless _ _) (by decide) ?_
      rw [bads hx]
      refine r_istore_3 dX8_valve_8 ?_
      refine r_aload_0 dX8_valve_9 ?_
      refine r_iload_3 dX8_valve_10 ?_
      refine r_if_eq 18 dX8_valve_11 (by decide) (fun c_11 => by exact absurd c_11 (by decide)) (fun c_11 => ?_)
      refine r_iload_3 dX8_valve_14 ?_
      refine r_goto 43 dX8_valve_15 (by decide) ?_
      refine r_cV1 mX8_isRefused dX8_valve_43 ml_X8_245 mo_X8_isRefused rfl (q_isRefused _ _) (by decide) ?_
      rw [b2i_t (by decide)]
      refine r_if_eq 51 dX8_valve_46 (by decide) (fun c_46 => by exact absurd c_46 (by decide)) (fun c_46 => ?_)
      refine r_iconst (v := (-1)) dX8_valve_49 (by decide) ?_
      refine r_iret dX8_valve_50 rfl ?_
      exact ⟨rfl, rfl⟩

