/-! ===== the reference: laysTree ===== -/
theorem TreeM.push {E : Nat} {fi se : Nat → Nat} {op : Nat → Bool} {s : TS} {h h' : PH} {e k : Nat} (tw : TW E fi se op s) (hE : endsOK E fi se) (hE14 : E ≤ 14) (c : TreeM h s) (he : e < E) (hk : k < s.1) (hc : (fi e = s.2.1 k ∨ se e = s.2.1 k) ∧ op e = true ∧ s.2.2.2 (oth fi se e (s.2.1 k)) = false)
    (g0 : h'.1 74 29 = h.1 74 29 ||| ((1 : Int32) <<< (nI (oth fi se e (s.2.1 k)) &&& 31))) (g2 : h'.1 74 32 = nI (s.1 + 1)) (g3 : ∀ j, h'.1 86 j = if j = s.1 then nI (oth fi se e (s.2.1 k)) else h.1 86 j) (g5 : ∀ j, h'.1 85 j = if j = oth fi se e (s.2.1 k) then nI e else h.1 85 j) : TreeM h' (spr1 fi se op (s.2.1 k) e s) := by
  have tg := TG.step fi se op (s.2.1 k) e s
  obtain ⟨c0, c2, c3, c4⟩ := c
  have hs' : spr1 fi se op (s.2.1 k) e s = (s.1 + 1, fupd s.2.1 s.1 (oth fi se e (s.2.1 k)), fupd s.2.2.1 (oth fi se e (s.2.1 k)) (nI e), fun j => s.2.2.2 j || decide (j = oth fi se e (s.2.1 k))) := by unfold spr1; rw [if_pos hc]
  have hto : oth fi se e (s.2.1 k) < 9 := by have := hE e he; unfold oth; split <;> omega
  rw [hs']
  refine ⟨fun i hi => ?_, g2, fun j hj => ?_, fun j hj => ?_⟩
  · rw [g0, b_set _ (by omega) hi, c0 i hi]
  · have hj : j < s.1 + 1 := hj
    rw [g3]
    show _ = nI (fupd s.2.1 s.1 _ j)
    by_cases q : j = s.1
    · rw [if_pos q, q, fupd_s]
    · rw [if_neg q, fupd_n q]; exact c3 j (by omega)
  · rw [g5]
    show _ = fupd s.2.2.1 _ _ j
    by_cases q : j = oth fi se e (s.2.1 k)
    · rw [if_pos q, q, fupd_s]
    · rw [if_neg q, fupd_n q]; exact c4 j hj
def tS : Nat → Prop := fun y => y = 85 ∨ y = 86
def tF : Nat → Prop := fun k => k = 29 ∨ k = 32
theorem tS_s : ∀ x, tS x → slS x := fun x q => by rcases q with rfl | rfl <;> exact ⟨by decide, by decide⟩
theorem tF_s : ∀ x, tF x → slF x := fun x q => by rcases q with rfl | rfl; exact Or.inr (Or.inl rfl); exact Or.inr (Or.inr (Or.inl rfl))
set_option maxRecDepth 100000 in
set_option maxHeartbeats 4000000 in
theorem mtree_in {t : NT} (ok : okT t) (sh : Int32) {Q : Option Value → PH → Prop} (k : Nat) : ∀ (m e : Nat) (s : TS) (h : PH), e + m = NT.E t → NetM h t → h.1 74 28 = sh → TreeM h s → TW (NT.E t) (NT.fi t) (NT.se t) (opS (snOf t) sh) s → k < s.1 → (∀ h', TreeM h' (spr (NT.fi t) (NT.se t) (opS (snOf t) sh) (s.2.1 k) m e s) → FM tS tF h h' → RT mX8_laysTree 2 185 [some (.ref 74), some (.int (nI k)), none, none, none] [] h' Q) → RT mX8_laysTree 2 51 [some (.ref 74), some (.int (nI k)), some (.int (nI e)), none, none] [] h Q := by
  have hE14 := ok.2.2.1
  have hj9 := ok.2.1
  intro m
  induction m with
  | zero =>
    intro e s h hm nc hs tc tw hk K
    refine r_iload_2 dX8_laysTree_51 ?_
    refine r_aload_0 dX8_laysTree_52 ?_
    refine r_getI dX8_laysTree_53 fl_X8_232 rfl ?_
    rw [nc.2.1]
    refine r_icmpN_ge 185 dX8_laysTree_56 (by decide) (by omega) (by omega) (fun c_56 => ?_) (fun c_56 => by omega)
    refine RT.sub (lv' := [some (.ref 74), some (.int (nI k)), none, none, none]) (by simp [lsub]) ?_
    exact K h tc FM.rf
  | succ m ih =>
    intro e s h hm nc hs tc tw hk K
    have he : e < NT.E t := by omega
    have hx9 : s.2.1 k < 9 := (tw.1 k hk).1
    have h9 := tw.le
    have hq := tc.2.2.1 k hk
    have hsp : spr (NT.fi t) (NT.se t) (opS (snOf t) sh) (s.2.1 k) (m + 1) e s = spr (NT.fi t) (NT.se t) (opS (snOf t) sh) (s.2.1 k) m (e + 1) (spr1 (NT.fi t) (NT.se t) (opS (snOf t) sh) (s.2.1 k) e s) := rfl
    rw [hsp] at K
    obtain ⟨n1, n2, n3, n4, n5, n6⟩ := nc.2.2.2.2.2.2 e he
    obtain ⟨ee1, ee2, ee3⟩ := ok.ends e he
    have hto : oth (NT.fi t) (NT.se t) e (s.2.1 k) < 9 := by unfold oth; split <;> omega
    by_cases hc1 : NT.fi t e = s.2.1 k
    · have hB : NT.fi t e = s.2.1 k ∨ NT.se t e = s.2.1 k := Or.inl hc1
      by_cases hop : (opS (snOf t) sh) e = true
      · cases hme : s.2.2.2 (oth (NT.fi t) (NT.se t) e (s.2.1 k))
        · have hc9 : s.1 + 1 ≤ 9 := by
            have := (tw.step (e := e) (k := k) ok.ends he hk).le
            unfold spr1 at this
            rw [if_pos ⟨hB, hop, hme⟩] at this
            exact this
          refine r_iload_2 dX8_laysTree_51 ?_
          refine r_aload_0 dX8_laysTree_52 ?_
          refine r_getI dX8_laysTree_53 fl_X8_232 rfl ?_
          rw [nc.2.1]
          refine r_icmpN_ge 185 dX8_laysTree_56 (by decide) (by omega) (by omega) (fun c_56 => by omega) (fun c_56 => ?_)
          refine r_aload_0 dX8_laysTree_59 ?_
          refine r_getR (a := 79) dX8_laysTree_60 fl_X8_28 rfl rfl ?_
          refine r_iload_2 dX8_laysTree_63 ?_
          refine r_ialdN dX8_laysTree_64 rfl (by omega) ?_
          rw [n1]
          refine r_aload_0 dX8_laysTree_65 ?_
          refine r_getR (a := 86) dX8_laysTree_66 fl_X8_49 rfl rfl ?_
          refine r_iload_1 dX8_laysTree_69 ?_
          refine r_ialdN dX8_laysTree_70 rfl (by omega) ?_
          rw [hq]
          refine r_icmpN_eq 89 dX8_laysTree_71 (by decide) (by omega) (by omega) (fun c_71 => ?_) (fun c_71 => by exact absurd hc1 c_71)
          refine r_iconst (v := 1) dX8_laysTree_89 (by decide) ?_
          refine r_goto 94 dX8_laysTree_90 (by decide) ?_
          refine r_istore_3 dX8_laysTree_94 ?_
          refine r_iload_3 dX8_laysTree_95 ?_
          refine r_if_eq 113 dX8_laysTree_96 (by decide) (fun c_96 => by exact absurd c_96 (by decide)) (fun c_96 => ?_)
          refine r_aload_0 dX8_laysTree_99 ?_
          refine r_iload_2 dX8_laysTree_100 ?_
          refine r_aload_0 dX8_laysTree_101 ?_
          refine r_getR (a := 86) dX8_laysTree_102 fl_X8_49 rfl rfl ?_
          refine r_iload_1 dX8_laysTree_105 ?_
          refine r_ialdN dX8_laysTree_106 rfl (by omega) ?_
          rw [hq]
          refine r_cV2 mX8_otherEnd dX8_laysTree_107 ml_X8_281 mo_X8_otherEnd rfl (q_otherEnd ok nc he hx9) (by decide) ?_
          refine r_goto 114 dX8_laysTree_110 (by decide) ?_
          refine r_istore_4 dX8_laysTree_114 ?_
          refine r_iload_3 dX8_laysTree_116 ?_
          refine r_if_eq 179 dX8_laysTree_117 (by decide) (fun c_117 => by exact absurd c_117 (by decide)) (fun c_117 => ?_)
          refine r_aload_0 dX8_laysTree_120 ?_
          refine r_iload_2 dX8_laysTree_121 ?_
          refine r_cV1 mX8_isOpen dX8_laysTree_122 ml_X8_269 mo_X8_isOpen rfl (q_isOpen nc (show e < 32 by omega)) (by decide) ?_
          rw [hs, hop]
          refine r_if_eq 179 dX8_laysTree_125 (by decide) (fun c_125 => by exact absurd c_125 (by decide)) (fun c_125 => ?_)
          refine r_aload_0 dX8_laysTree_128 ?_
          refine r_iload_4 dX8_laysTree_129 ?_
          refine r_cV1 mX8_isMet dX8_laysTree_131 ml_X8_272 mo_X8_isMet rfl (q_isMet h (j := oth (NT.fi t) (NT.se t) e (s.2.1 k)) (by omega)) (by decide) ?_
          rw [tc.1 _ (by omega), hme]
          refine r_if_ne 179 dX8_laysTree_134 (by decide) (fun c_134 => by exact absurd rfl c_134) (fun c_134 => ?_)
          refine r_aload_0 dX8_laysTree_137 ?_
          refine r_dupr dX8_laysTree_138 ?_
          refine r_getI dX8_laysTree_139 fl_X8_266 rfl ?_
          refine r_iconst (v := 1) dX8_laysTree_142 (by decide) ?_
          refine r_iload_4 dX8_laysTree_143 ?_
          refine r_ishl dX8_laysTree_145 ?_
          refine r_ior dX8_laysTree_146 ?_
          refine r_putI dX8_laysTree_147 fl_X8_266 rfl rfl rfl ?_
          refine r_aload_0 dX8_laysTree_150 ?_
          refine r_getR (a := 85) dX8_laysTree_151 fl_X8_46 rfl rfl ?_
          refine r_iload_4 dX8_laysTree_154 ?_
          refine r_iload_2 dX8_laysTree_156 ?_
          refine r_iastN dX8_laysTree_157 rfl (by omega) ?_
          refine r_aload_0 dX8_laysTree_158 ?_
          refine r_getR (a := 86) dX8_laysTree_159 fl_X8_49 rfl rfl ?_
          refine r_aload_0 dX8_laysTree_162 ?_
          refine r_getI dX8_laysTree_163 fl_X8_278 rfl ?_
          simp (decide := true) only [pI_1, pI_2, pL_1, pL_2, pA_1, pA_2, pB_1, pB_2, Nat.add_left_cancel_iff, Nat.add_right_cancel_iff, Nat.add_eq_left, Nat.left_eq_add, true_and, false_and, and_false, and_true, and_self, if_true, if_false, ite_true, ite_false]
          rw [tc.2.1]
          refine r_iload_4 dX8_laysTree_166 ?_
          refine r_iastN dX8_laysTree_168 rfl (by omega) ?_
          refine r_aload_0 dX8_laysTree_169 ?_
          refine r_dupr dX8_laysTree_170 ?_
          refine r_getI dX8_laysTree_171 fl_X8_278 rfl ?_
          refine r_iconst (v := 1) dX8_laysTree_174 (by decide) ?_
          refine r_iadd dX8_laysTree_175 ?_
          refine r_putI dX8_laysTree_176 fl_X8_278 rfl rfl rfl ?_
          refine r_iincN_2 dX8_laysTree_179 ?_
          refine r_goto 51 dX8_laysTree_182 (by decide) ?_
          refine RT.sub (lv' := [some (.ref 74), some (.int (nI k)), some (.int (nI (e + 1))), none, none]) (by simp [lsub]) ?_
          have hg1 : (spr1 (NT.fi t) (NT.se t) (opS (snOf t) sh) (s.2.1 k) e s).2.1 k = s.2.1 k := (TG.step _ _ _ _ _ _).2.1 k hk
          have ih' := ih (e + 1) (spr1 (NT.fi t) (NT.se t) (opS (snOf t) sh) (s.2.1 k) e s)
          rw [hg1] at ih'
          have go : ∀ H, FM tS tF h H → TreeM H (spr1 (NT.fi t) (NT.se t) (opS (snOf t) sh) (s.2.1 k) e s) → RT mX8_laysTree 2 51 [some (.ref 74), some (.int (nI k)), some (.int (nI (e + 1))), none, none] [] H Q := fun H fN tcN => ih' H (by omega) (nc.fm (fN.wk tS_s tF_s)) (by rw [fN.1 28 (fun q => by rcases q with q | q <;> omega)]; exact hs) tcN (tw.step ok.ends he hk) (Nat.lt_of_lt_of_le hk (TG.step _ _ _ _ _ _).1) (fun h' tc' f' => K h' tc' (fN.tr f'))
          refine go _ ((((FM.rf.pF (Or.inl rfl)).pI (by decide) (Or.inl rfl)).pI (by decide) (Or.inr rfl)).pF (Or.inr rfl)) ?_
          refine TreeM.push tw ok.ends hE14 tc he hk ⟨hB, hop, hme⟩ ?_ ?_ (fun j => ?_) (fun j => ?_)
          all_goals simp (decide := true) only [pI_1, pI_2, pL_1, pL_2, pA_1, pA_2, pB_1, pB_2, Nat.add_left_cancel_iff, Nat.add_right_cancel_iff, Nat.add_eq_left, Nat.left_eq_add, true_and, false_and, and_false, and_true, and_self, if_true, if_false, ite_true, ite_false]
          all_goals first | rfl | (rw [tc.2.1, nI_1]; done) | (simp; done)
        · have hs1 : spr1 (NT.fi t) (NT.se t) (opS (snOf t) sh) (s.2.1 k) e s = s := if_neg (fun q => by rw [hme] at q; exact absurd q.2.2 (by decide))
          refine r_iload_2 dX8_laysTree_51 ?_
          refine r_aload_0 dX8_laysTree_52 ?_
          refine r_getI dX8_laysTree_53 fl_X8_232 rfl ?_
          rw [nc.2.1]
          refine r_icmpN_ge 185 dX8_laysTree_56 (by decide) (by omega) (by omega) (fun c_56 => by omega) (fun c_56 => ?_)
          refine r_aload_0 dX8_laysTree_59 ?_
          refine r_getR (a := 79) dX8_laysTree_60 fl_X8_28 rfl rfl ?_
          refine r_iload_2 dX8_laysTree_63 ?_
          refine r_ialdN dX8_laysTree_64 rfl (by omega) ?_
          rw [n1]
          refine r_aload_0 dX8_laysTree_65 ?_
          refine r_getR (a := 86) dX8_laysTree_66 fl_X8_49 rfl rfl ?_
          refine r_iload_1 dX8_laysTree_69 ?_
          refine r_ialdN dX8_laysTree_70 rfl (by omega) ?_
          rw [hq]
          refine r_icmpN_eq 89 dX8_laysTree_71 (by decide) (by omega) (by omega) (fun c_71 => ?_) (fun c_71 => by exact absurd hc1 c_71)
          refine r_iconst (v := 1) dX8_laysTree_89 (by decide) ?_
          refine r_goto 94 dX8_laysTree_90 (by decide) ?_
          refine r_istore_3 dX8_laysTree_94 ?_
          refine r_iload_3 dX8_laysTree_95 ?_
          refine r_if_eq 113 dX8_laysTree_96 (by decide) (fun c_96 => by exact absurd c_96 (by decide)) (fun c_96 => ?_)
          refine r_aload_0 dX8_laysTree_99 ?_
          refine r_iload_2 dX8_laysTree_100 ?_
          refine r_aload_0 dX8_laysTree_101 ?_
          refine r_getR (a := 86) dX8_laysTree_102 fl_X8_49 rfl rfl ?_
          refine r_iload_1 dX8_laysTree_105 ?_
          refine r_ialdN dX8_laysTree_106 rfl (by omega) ?_
          rw [hq]
          refine r_cV2 mX8_otherEnd dX8_laysTree_107 ml_X8_281 mo_X8_otherEnd rfl (q_otherEnd ok nc he hx9) (by decide) ?_
          refine r_goto 114 dX8_laysTree_110 (by decide) ?_
          refine r_istore_4 dX8_laysTree_114 ?_
          refine r_iload_3 dX8_laysTree_116 ?_
          refine r_if_eq 179 dX8_laysTree_117 (by decide) (fun c_117 => by exact absurd c_117 (by decide)) (fun c_117 => ?_)
          refine r_aload_0 dX8_laysTree_120 ?_
          refine r_iload_2 dX8_laysTree_121 ?_
          refine r_cV1 mX8_isOpen dX8_laysTree_122 ml_X8_269 mo_X8_isOpen rfl (q_isOpen nc (show e < 32 by omega)) (by decide) ?_
          rw [hs, hop]
          refine r_if_eq 179 dX8_laysTree_125 (by decide) (fun c_125 => by exact absurd c_125 (by decide)) (fun c_125 => ?_)
          refine r_aload_0 dX8_laysTree_128 ?_
          refine r_iload_4 dX8_laysTree_129 ?_
          refine r_cV1 mX8_isMet dX8_laysTree_131 ml_X8_272 mo_X8_isMet rfl (q_isMet h (j := oth (NT.fi t) (NT.se t) e (s.2.1 k)) (by omega)) (by decide) ?_
          rw [tc.1 _ (by omega), hme]
          refine r_if_ne 179 dX8_laysTree_134 (by decide) (fun c_134 => ?_) (fun c_134 => by exact absurd c_134 (by decide))
          refine r_iincN_2 dX8_laysTree_179 ?_
          refine r_goto 51 dX8_laysTree_182 (by decide) ?_
          refine RT.sub (lv' := [some (.ref 74), some (.int (nI k)), some (.int (nI (e + 1))), none, none]) (by simp [lsub]) ?_
          rw [hs1] at K; exact ih (e + 1) s h (by omega) nc hs tc tw hk K
      · have hs1 : spr1 (NT.fi t) (NT.se t) (opS (snOf t) sh) (s.2.1 k) e s = s := if_neg (fun q => hop q.2.1)
        refine r_iload_2 dX8_laysTree_51 ?_
        refine r_aload_0 dX8_laysTree_52 ?_
        refine r_getI dX8_laysTree_53 fl_X8_232 rfl ?_
        rw [nc.2.1]
        refine r_icmpN_ge 185 dX8_laysTree_56 (by decide) (by omega) (by omega) (fun c_56 => by omega) (fun c_56 => ?_)
        refine r_aload_0 dX8_laysTree_59 ?_
        refine r_getR (a := 79) dX8_laysTree_60 fl_X8_28 rfl rfl ?_
        refine r_iload_2 dX8_laysTree_63 ?_
        refine r_ialdN dX8_laysTree_64 rfl (by omega) ?_
        rw [n1]
        refine r_aload_0 dX8_laysTree_65 ?_
        refine r_getR (a := 86) dX8_laysTree_66 fl_X8_49 rfl rfl ?_
        refine r_iload_1 dX8_laysTree_69 ?_
        refine r_ialdN dX8_laysTree_70 rfl (by omega) ?_
        rw [hq]
        refine r_icmpN_eq 89 dX8_laysTree_71 (by decide) (by omega) (by omega) (fun c_71 => ?_) (fun c_71 => by exact absurd hc1 c_71)
        refine r_iconst (v := 1) dX8_laysTree_89 (by decide) ?_
        refine r_goto 94 dX8_laysTree_90 (by decide) ?_
        refine r_istore_3 dX8_laysTree_94 ?_
        refine r_iload_3 dX8_laysTree_95 ?_
        refine r_if_eq 113 dX8_laysTree_96 (by decide) (fun c_96 => by exact absurd c_96 (by decide)) (fun c_96 => ?_)
        refine r_aload_0 dX8_laysTree_99 ?_
        refine r_iload_2 dX8_laysTree_100 ?_
        refine r_aload_0 dX8_laysTree_101 ?_
        refine r_getR (a := 86) dX8_laysTree_102 fl_X8_49 rfl rfl ?_
        refine r_iload_1 dX8_laysTree_105 ?_
        refine r_ialdN dX8_laysTree_106 rfl (by omega) ?_
        rw [hq]
        refine r_cV2 mX8_otherEnd dX8_laysTree_107 ml_X8_281 mo_X8_otherEnd rfl (q_otherEnd ok nc he hx9) (by decide) ?_
        refine r_goto 114 dX8_laysTree_110 (by decide) ?_
        refine r_istore_4 dX8_laysTree_114 ?_
        refine r_iload_3 dX8_laysTree_116 ?_
        refine r_if_eq 179 dX8_laysTree_117 (by decide) (fun c_117 => by exact absurd c_117 (by decide)) (fun c_117 => ?_)
        refine r_aload_0 dX8_laysTree_120 ?_
        refine r_iload_2 dX8_laysTree_121 ?_
        refine r_cV1 mX8_isOpen dX8_laysTree_122 ml_X8_269 mo_X8_isOpen rfl (q_isOpen nc (show e < 32 by omega)) (by decide) ?_
        rw [hs, show (opS (snOf t) sh) e = false by simpa using hop]
        refine r_if_eq 179 dX8_laysTree_125 (by decide) (fun c_125 => ?_) (fun c_125 => by exact absurd rfl c_125)
        refine r_iincN_2 dX8_laysTree_179 ?_
        refine r_goto 51 dX8_laysTree_182 (by decide) ?_
        refine RT.sub (lv' := [some (.ref 74), some (.int (nI k)), some (.int (nI (e + 1))), none, none]) (by simp [lsub]) ?_
        rw [hs1] at K; exact ih (e + 1) s h (by omega) nc hs tc tw hk K
    · by_cases hc2 : NT.se t e = s.2.1 k
      · have hB : NT.fi t e = s.2.1 k ∨ NT.se t e = s.2.1 k := Or.inr hc2
        by_cases hop : (opS (snOf t) sh) e = true
        · cases hme : s.2.2.2 (oth (NT.fi t) (NT.se t) e (s.2.1 k))
          · have hc9 : s.1 + 1 ≤ 9 := by
              have := (tw.step (e := e) (k := k) ok.ends he hk).le
              unfold spr1 at this
              rw [if_pos ⟨hB, hop, hme⟩] at this
              exact this
            refine r_iload_2 dX8_laysTree_51 ?_
            refine r_aload_0 dX8_laysTree_52 ?_
            refine r_getI dX8_laysTree_53 fl_X8_232 rfl ?_
            rw [nc.2.1]
            refine r_icmpN_ge 185 dX8_laysTree_56 (by decide) (by omega) (by omega) (fun c_56 => by omega) (fun c_56 => ?_)
            refine r_aload_0 dX8_laysTree_59 ?_
            refine r_getR (a := 79) dX8_laysTree_60 fl_X8_28 rfl rfl ?_
            refine r_iload_2 dX8_laysTree_63 ?_
            refine r_ialdN dX8_laysTree_64 rfl (by omega) ?_
            rw [n1]
            refine r_aload_0 dX8_laysTree_65 ?_
            refine r_getR (a := 86) dX8_laysTree_66 fl_X8_49 rfl rfl ?_
            refine r_iload_1 dX8_laysTree_69 ?_
            refine r_ialdN dX8_laysTree_70 rfl (by omega) ?_
            rw [hq]
            refine r_icmpN_eq 89 dX8_laysTree_71 (by decide) (by omega) (by omega) (fun c_71 => by exact absurd c_71 hc1) (fun c_71 => ?_)
            refine r_aload_0 dX8_laysTree_74 ?_
            refine r_getR (a := 80) dX8_laysTree_75 fl_X8_31 rfl rfl ?_
            refine r_iload_2 dX8_laysTree_78 ?_
            refine r_ialdN dX8_laysTree_79 rfl (by omega) ?_
            rw [n2]
            refine r_aload_0 dX8_laysTree_80 ?_
            refine r_getR (a := 86) dX8_laysTree_81 fl_X8_49 rfl rfl ?_
            refine r_iload_1 dX8_laysTree_84 ?_
            refine r_ialdN dX8_laysTree_85 rfl (by omega) ?_
            rw [hq]
            refine r_icmpN_ne 93 dX8_laysTree_86 (by decide) (by omega) (by omega) (fun c_86 => by exact absurd hc2 c_86) (fun c_86 => ?_)
            refine r_iconst (v := 1) dX8_laysTree_89 (by decide) ?_
            refine r_goto 94 dX8_laysTree_90 (by decide) ?_
            refine r_istore_3 dX8_laysTree_94 ?_
            refine r_iload_3 dX8_laysTree_95 ?_
            refine r_if_eq 113 dX8_laysTree_96 (by decide) (fun c_96 => by exact absurd c_96 (by decide)) (fun c_96 => ?_)
            refine r_aload_0 dX8_laysTree_99 ?_
            refine r_iload_2 dX8_laysTree_100 ?_
            refine r_aload_0 dX8_laysTree_101 ?_
            refine r_getR (a := 86) dX8_laysTree_102 fl_X8_49 rfl rfl ?_
            refine r_iload_1 dX8_laysTree_105 ?_
            refine r_ialdN dX8_laysTree_106 rfl (by omega) ?_
            rw [hq]
            refine r_cV2 mX8_otherEnd dX8_laysTree_107 ml_X8_281 mo_X8_otherEnd rfl (q_otherEnd ok nc he hx9) (by decide) ?_
            refine r_goto 114 dX8_laysTree_110 (by decide) ?_
            refine r_istore_4 dX8_laysTree_114 ?_
            refine r_iload_3 dX8_laysTree_116 ?_
            refine r_if_eq 179 dX8_laysTree_117 (by decide) (fun c_117 => by exact absurd c_117 (by decide)) (fun c_117 => ?_)
            refine r_aload_0 dX8_laysTree_120 ?_
            refine r_iload_2 dX8_laysTree_121 ?_
            refine r_cV1 mX8_isOpen dX8_laysTree_122 ml_X8_269 mo_X8_isOpen rfl (q_isOpen nc (show e < 32 by omega)) (by decide) ?_
            rw [hs, hop]
            refine r_if_eq 179 dX8_laysTree_125 (by decide) (fun c_125 => by exact absurd c_125 (by decide)) (fun c_125 => ?_)
            refine r_aload_0 dX8_laysTree_128 ?_
            refine r_iload_4 dX8_laysTree_129 ?_
            refine r_cV1 mX8_isMet dX8_laysTree_131 ml_X8_272 mo_X8_isMet rfl (q_isMet h (j := oth (NT.fi t) (NT.se t) e (s.2.1 k)) (by omega)) (by decide) ?_
            rw [tc.1 _ (by omega), hme]
            refine r_if_ne 179 dX8_laysTree_134 (by decide) (fun c_134 => by exact absurd rfl c_134) (fun c_134 => ?_)
            refine r_aload_0 dX8_laysTree_137 ?_
            refine r_dupr dX8_laysTree_138 ?_
            refine r_getI dX8_laysTree_139 fl_X8_266 rfl ?_
            refine r_iconst (v := 1) dX8_laysTree_142 (by decide) ?_
            refine r_iload_4 dX8_laysTree_143 ?_
            refine r_ishl dX8_laysTree_145 ?_
            refine r_ior dX8_laysTree_146 ?_
            refine r_putI dX8_laysTree_147 fl_X8_266 rfl rfl rfl ?_
            refine r_aload_0 dX8_laysTree_150 ?_
            refine r_getR (a := 85) dX8_laysTree_151 fl_X8_46 rfl rfl ?_
            refine r_iload_4 dX8_laysTree_154 ?_
            refine r_iload_2 dX8_laysTree_156 ?_
            refine r_iastN dX8_laysTree_157 rfl (by omega) ?_
            refine r_aload_0 dX8_laysTree_158 ?_
            refine r_getR (a := 86) dX8_laysTree_159 fl_X8_49 rfl rfl ?_
            refine r_aload_0 dX8_laysTree_162 ?_
            refine r_getI dX8_laysTree_163 fl_X8_278 rfl ?_
            simp (decide := true) only [pI_1, pI_2, pL_1, pL_2, pA_1, pA_2, pB_1, pB_2, Nat.add_left_cancel_iff, Nat.add_right_cancel_iff, Nat.add_eq_left, Nat.left_eq_add, true_and, false_and, and_false, and_true, and_self, if_true, if_false, ite_true, ite_false]
            rw [tc.2.1]
            refine r_iload_4 dX8_laysTree_166 ?_
            refine r_iastN dX8_laysTree_168 rfl (by omega) ?_
            refine r_aload_0 dX8_laysTree_169 ?_
            refine r_dupr dX8_laysTree_170 ?_
            refine r_getI dX8_laysTree_171 fl_X8_278 rfl ?_
            refine r_iconst (v := 1) dX8_laysTree_174 (by decide) ?_
            refine r_iadd dX8_laysTree_175 ?_
            refine r_putI dX8_laysTree_176 fl_X8_278 rfl rfl rfl ?_
            refine r_iincN_2 dX8_laysTree_179 ?_
            refine r_goto 51 dX8_laysTree_182 (by decide) ?_
            refine RT.sub (lv' := [some (.ref 74), some (.int (nI k)), some (.int (nI (e + 1))), none, none]) (by simp [lsub]) ?_
            have hg1 : (spr1 (NT.fi t) (NT.se t) (opS (snOf t) sh) (s.2.1 k) e s).2.1 k = s.2.1 k := (TG.step _ _ _ _ _ _).2.1 k hk
            have ih' := ih (e + 1) (spr1 (NT.fi t) (NT.se t) (opS (snOf t) sh) (s.2.1 k) e s)
            rw [hg1] at ih'
            have go : ∀ H, FM tS tF h H → TreeM H (spr1 (NT.fi t) (NT.se t) (opS (snOf t) sh) (s.2.1 k) e s) → RT mX8_laysTree 2 51 [some (.ref 74), some (.int (nI k)), some (.int (nI (e + 1))), none, none] [] H Q := fun H fN tcN => ih' H (by omega) (nc.fm (fN.wk tS_s tF_s)) (by rw [fN.1 28 (fun q => by rcases q with q | q <;> omega)]; exact hs) tcN (tw.step ok.ends he hk) (Nat.lt_of_lt_of_le hk (TG.step _ _ _ _ _ _).1) (fun h' tc' f' => K h' tc' (fN.tr f'))
            refine go _ ((((FM.rf.pF (Or.inl rfl)).pI (by decide) (Or.inl rfl)).pI (by decide) (Or.inr rfl)).pF (Or.inr rfl)) ?_
            refine TreeM.push tw ok.ends hE14 tc he hk ⟨hB, hop, hme⟩ ?_ ?_ (fun j => ?_) (fun j => ?_)
            all_goals simp (decide := true) only [pI_1, pI_2, pL_1, pL_2, pA_1, pA_2, pB_1, pB_2, Nat.add_left_cancel_iff, Nat.add_right_cancel_iff, Nat.add_eq_left, Nat.left_eq_add, true_and, false_and, and_false, and_true, and_self, if_true, if_false, ite_true, ite_false]
            all_goals first | rfl | (rw [tc.2.1, nI_1]; done) | (simp; done)
          · have hs1 : spr1 (NT.fi t) (NT.se t) (opS (snOf t) sh) (s.2.1 k) e s = s := if_neg (fun q => by rw [hme] at q; exact absurd q.2.2 (by decide))
            refine r_iload_2 dX8_laysTree_51 ?_
            refine r_aload_0 dX8_laysTree_52 ?_
            refine r_getI dX8_laysTree_53 fl_X8_232 rfl ?_
            rw [nc.2.1]
            refine r_icmpN_ge 185 dX8_laysTree_56 (by decide) (by omega) (by omega) (fun c_56 => by omega) (fun c_56 => ?_)
            refine r_aload_0 dX8_laysTree_59 ?_
            refine r_getR (a := 79) dX8_laysTree_60 fl_X8_28 rfl rfl ?_
            refine r_iload_2 dX8_laysTree_63 ?_
            refine r_ialdN dX8_laysTree_64 rfl (by omega) ?_
            rw [n1]
            refine r_aload_0 dX8_laysTree_65 ?_
            refine r_getR (a := 86) dX8_laysTree_66 fl_X8_49 rfl rfl ?_
            refine r_iload_1 dX8_laysTree_69 ?_
            refine r_ialdN dX8_laysTree_70 rfl (by omega) ?_
            rw [hq]
            refine r_icmpN_eq 89 dX8_laysTree_71 (by decide) (by omega) (by omega) (fun c_71 => by exact absurd c_71 hc1) (fun c_71 => ?_)
            refine r_aload_0 dX8_laysTree_74 ?_
            refine r_getR (a := 80) dX8_laysTree_75 fl_X8_31 rfl rfl ?_
            refine r_iload_2 dX8_laysTree_78 ?_
            refine r_ialdN dX8_laysTree_79 rfl (by omega) ?_
            rw [n2]
            refine r_aload_0 dX8_laysTree_80 ?_
            refine r_getR (a := 86) dX8_laysTree_81 fl_X8_49 rfl rfl ?_
            refine r_iload_1 dX8_laysTree_84 ?_
            refine r_ialdN dX8_laysTree_85 rfl (by omega) ?_
            rw [hq]
            refine r_icmpN_ne 93 dX8_laysTree_86 (by decide) (by omega) (by omega) (fun c_86 => by exact absurd hc2 c_86) (fun c_86 => ?_)
            refine r_iconst (v := 1) dX8_laysTree_89 (by decide) ?_
            refine r_goto 94 dX8_laysTree_90 (by decide) ?_
            refine r_istore_3 dX8_laysTree_94 ?_
            refine r_iload_3 dX8_laysTree_95 ?_
            refine r_if_eq 113 dX8_laysTree_96 (by decide) (fun c_96 => by exact absurd c_96 (by decide)) (fun c_96 => ?_)
            refine r_aload_0 dX8_laysTree_99 ?_
            refine r_iload_2 dX8_laysTree_100 ?_
            refine r_aload_0 dX8_laysTree_101 ?_
            refine r_getR (a := 86) dX8_laysTree_102 fl_X8_49 rfl rfl ?_
            refine r_iload_1 dX8_laysTree_105 ?_
            refine r_ialdN dX8_laysTree_106 rfl (by omega) ?_
            rw [hq]
            refine r_cV2 mX8_otherEnd dX8_laysTree_107 ml_X8_281 mo_X8_otherEnd rfl (q_otherEnd ok nc he hx9) (by decide) ?_
            refine r_goto 114 dX8_laysTree_110 (by decide) ?_
            refine r_istore_4 dX8_laysTree_114 ?_
            refine r_iload_3 dX8_laysTree_116 ?_
            refine r_if_eq 179 dX8_laysTree_117 (by decide) (fun c_117 => by exact absurd c_117 (by decide)) (fun c_117 => ?_)
            refine r_aload_0 dX8_laysTree_120 ?_
            refine r_iload_2 dX8_laysTree_121 ?_
            refine r_cV1 mX8_isOpen dX8_laysTree_122 ml_X8_269 mo_X8_isOpen rfl (q_isOpen nc (show e < 32 by omega)) (by decide) ?_
            rw [hs, hop]
            refine r_if_eq 179 dX8_laysTree_125 (by decide) (fun c_125 => by exact absurd c_125 (by decide)) (fun c_125 => ?_)
            refine r_aload_0 dX8_laysTree_128 ?_
            refine r_iload_4 dX8_laysTree_129 ?_
            refine r_cV1 mX8_isMet dX8_laysTree_131 ml_X8_272 mo_X8_isMet rfl (q_isMet h (j := oth (NT.fi t) (NT.se t) e (s.2.1 k)) (by omega)) (by decide) ?_
            rw [tc.1 _ (by omega), hme]
            refine r_if_ne 179 dX8_laysTree_134 (by decide) (fun c_134 => ?_) (fun c_134 => by exact absurd c_134 (by decide))
            refine r_iincN_2 dX8_laysTree_179 ?_
            refine r_goto 51 dX8_laysTree_182 (by decide) ?_
            refine RT.sub (lv' := [some (.ref 74), some (.int (nI k)), some (.int (nI (e + 1))), none, none]) (by simp [lsub]) ?_
            rw [hs1] at K; exact ih (e + 1) s h (by omega) nc hs tc tw hk K
        · have hs1 : spr1 (NT.fi t) (NT.se t) (opS (snOf t) sh) (s.2.1 k) e s = s := if_neg (fun q => hop q.2.1)
          refine r_iload_2 dX8_laysTree_51 ?_
          refine r_aload_0 dX8_laysTree_52 ?_
          refine r_getI dX8_laysTree_53 fl_X8_232 rfl ?_
          rw [nc.2.1]
          refine r_icmpN_ge 185 dX8_laysTree_56 (by decide) (by omega) (by omega) (fun c_56 => by omega) (fun c_56 => ?_)
          refine r_aload_0 dX8_laysTree_59 ?_
          refine r_getR (a := 79) dX8_laysTree_60 fl_X8_28 rfl rfl ?_
          refine r_iload_2 dX8_laysTree_63 ?_
          refine r_ialdN dX8_laysTree_64 rfl (by omega) ?_
          rw [n1]
          refine r_aload_0 dX8_laysTree_65 ?_
          refine r_getR (a := 86) dX8_laysTree_66 fl_X8_49 rfl rfl ?_
          refine r_iload_1 dX8_laysTree_69 ?_
          refine r_ialdN dX8_laysTree_70 rfl (by omega) ?_
          rw [hq]
          refine r_icmpN_eq 89 dX8_laysTree_71 (by decide) (by omega) (by omega) (fun c_71 => by exact absurd c_71 hc1) (fun c_71 => ?_)
          refine r_aload_0 dX8_laysTree_74 ?_
          refine r_getR (a := 80) dX8_laysTree_75 fl_X8_31 rfl rfl ?_
          refine r_iload_2 dX8_laysTree_78 ?_
          refine r_ialdN dX8_laysTree_79 rfl (by omega) ?_
          rw [n2]
          refine r_aload_0 dX8_laysTree_80 ?_
          refine r_getR (a := 86) dX8_laysTree_81 fl_X8_49 rfl rfl ?_
          refine r_iload_1 dX8_laysTree_84 ?_
          refine r_ialdN dX8_laysTree_85 rfl (by omega) ?_
          rw [hq]
          refine r_icmpN_ne 93 dX8_laysTree_86 (by decide) (by omega) (by omega) (fun c_86 => by exact absurd hc2 c_86) (fun c_86 => ?_)
          refine r_iconst (v := 1) dX8_laysTree_89 (by decide) ?_
          refine r_goto 94 dX8_laysTree_90 (by decide) ?_
          refine r_istore_3 dX8_laysTree_94 ?_
          refine r_iload_3 dX8_laysTree_95 ?_
          refine r_if_eq 113 dX8_laysTree_96 (by decide) (fun c_96 => by exact absurd c_96 (by decide)) (fun c_96 => ?_)
          refine r_aload_0 dX8_laysTree_99 ?_
          refine r_iload_2 dX8_laysTree_100 ?_
          refine r_aload_0 dX8_laysTree_101 ?_
          refine r_getR (a := 86) dX8_laysTree_102 fl_X8_49 rfl rfl ?_
          refine r_iload_1 dX8_laysTree_105 ?_
          refine r_ialdN dX8_laysTree_106 rfl (by omega) ?_
          rw [hq]
          refine r_cV2 mX8_otherEnd dX8_laysTree_107 ml_X8_281 mo_X8_otherEnd rfl (q_otherEnd ok nc he hx9) (by decide) ?_
          refine r_goto 114 dX8_laysTree_110 (by decide) ?_
          refine r_istore_4 dX8_laysTree_114 ?_
          refine r_iload_3 dX8_laysTree_116 ?_
          refine r_if_eq 179 dX8_laysTree_117 (by decide) (fun c_117 => by exact absurd c_117 (by decide)) (fun c_117 => ?_)
          refine r_aload_0 dX8_laysTree_120 ?_
          refine r_iload_2 dX8_laysTree_121 ?_
          refine r_cV1 mX8_isOpen dX8_laysTree_122 ml_X8_269 mo_X8_isOpen rfl (q_isOpen nc (show e < 32 by omega)) (by decide) ?_
          rw [hs, show (opS (snOf t) sh) e = false by simpa using hop]
          refine r_if_eq 179 dX8_laysTree_125 (by decide) (fun c_125 => ?_) (fun c_125 => by exact absurd rfl c_125)
          refine r_iincN_2 dX8_laysTree_179 ?_
          refine r_goto 51 dX8_laysTree_182 (by decide) ?_
          refine RT.sub (lv' := [some (.ref 74), some (.int (nI k)), some (.int (nI (e + 1))), none, none]) (by simp [lsub]) ?_
          rw [hs1] at K; exact ih (e + 1) s h (by omega) nc hs tc tw hk K
      · have hs1 : spr1 (NT.fi t) (NT.se t) (opS (snOf t) sh) (s.2.1 k) e s = s := if_neg (fun q => q.1.elim hc1 hc2)
        refine r_iload_2 dX8_laysTree_51 ?_
        refine r_aload_0 dX8_laysTree_52 ?_
        refine r_getI dX8_laysTree_53 fl_X8_232 rfl ?_
        rw [nc.2.1]
        refine r_icmpN_ge 185 dX8_laysTree_56 (by decide) (by omega) (by omega) (fun c_56 => by omega) (fun c_56 => ?_)
        refine r_aload_0 dX8_laysTree_59 ?_
        refine r_getR (a := 79) dX8_laysTree_60 fl_X8_28 rfl rfl ?_
        refine r_iload_2 dX8_laysTree_63 ?_
        refine r_ialdN dX8_laysTree_64 rfl (by omega) ?_
        rw [n1]
        refine r_aload_0 dX8_laysTree_65 ?_
        refine r_getR (a := 86) dX8_laysTree_66 fl_X8_49 rfl rfl ?_
        refine r_iload_1 dX8_laysTree_69 ?_
        refine r_ialdN dX8_laysTree_70 rfl (by omega) ?_
        rw [hq]
        refine r_icmpN_eq 89 dX8_laysTree_71 (by decide) (by omega) (by omega) (fun c_71 => by exact absurd c_71 hc1) (fun c_71 => ?_)
        refine r_aload_0 dX8_laysTree_74 ?_
        refine r_getR (a := 80) dX8_laysTree_75 fl_X8_31 rfl rfl ?_
        refine r_iload_2 dX8_laysTree_78 ?_
        refine r_ialdN dX8_laysTree_79 rfl (by omega) ?_
        rw [n2]
        refine r_aload_0 dX8_laysTree_80 ?_
        refine r_getR (a := 86) dX8_laysTree_81 fl_X8_49 rfl rfl ?_
        refine r_iload_1 dX8_laysTree_84 ?_
        refine r_ialdN dX8_laysTree_85 rfl (by omega) ?_
        rw [hq]
        refine r_icmpN_ne 93 dX8_laysTree_86 (by decide) (by omega) (by omega) (fun c_86 => ?_) (fun c_86 => by exact absurd c_86 hc2)
        refine r_iconst (v := 0) dX8_laysTree_93 (by decide) ?_
        refine r_istore_3 dX8_laysTree_94 ?_
        refine r_iload_3 dX8_laysTree_95 ?_
        refine r_if_eq 113 dX8_laysTree_96 (by decide) (fun c_96 => ?_) (fun c_96 => by exact absurd rfl c_96)
        refine r_iconst (v := (-1)) dX8_laysTree_113 (by decide) ?_
        refine r_istore_4 dX8_laysTree_114 ?_
        refine r_iload_3 dX8_laysTree_116 ?_
        refine r_if_eq 179 dX8_laysTree_117 (by decide) (fun c_117 => ?_) (fun c_117 => by exact absurd rfl c_117)
        refine r_iincN_2 dX8_laysTree_179 ?_
        refine r_goto 51 dX8_laysTree_182 (by decide) ?_
        refine RT.sub (lv' := [some (.ref 74), some (.int (nI k)), some (.int (nI (e + 1))), none, none]) (by simp [lsub]) ?_
        rw [hs1] at K; exact ih (e + 1) s h (by omega) nc hs tc tw hk K
set_option maxRecDepth 100000 in
set_option maxHeartbeats 4000000 in
theorem mtree_out {t : NT} (ok : okT t) (sh : Int32) (h0 : PH) : ∀ (n k : Nat) (s : TS) (h : PH), k + n = 9 → NetM h t → h.1 74 28 = sh → TreeM h s → TW (NT.E t) (NT.fi t) (NT.se t) (opS (snOf t) sh) s → FM tS tF h0 h → RT mX8_laysTree 2 41 [some (.ref 74), some (.int (nI k)), none, none, none] [] h (fun a h' => a = none ∧ (TreeM h' (bfs (NT.E t) (NT.fi t) (NT.se t) (opS (snOf t) sh) n k s) ∧ FM tS tF h0 h')) := by
  intro n
  induction n with
  | zero =>
    intro k s h hk nc hs tc tw fr
    have h9 := tw.le
    refine r_iload_1 dX8_laysTree_41 ?_
    refine r_aload_0 dX8_laysTree_42 ?_
    refine r_getI dX8_laysTree_43 fl_X8_278 rfl ?_
    rw [tc.2.1]
    refine r_icmpN_ge 191 dX8_laysTree_46 (by decide) (by omega) (by omega) (fun c_46 => ?_) (fun c_46 => by omega)
    refine r_vret dX8_laysTree_191 rfl ?_
    exact ⟨rfl, tc, fr⟩
  | succ n ih =>
    intro k s h hk nc hs tc tw fr
    have h9 := tw.le
    by_cases hks : k < s.1
    · refine r_iload_1 dX8_laysTree_41 ?_
      refine r_aload_0 dX8_laysTree_42 ?_
      refine r_getI dX8_laysTree_43 fl_X8_278 rfl ?_
      rw [tc.2.1]
      refine r_icmpN_ge 191 dX8_laysTree_46 (by decide) (by omega) (by omega) (fun c_46 => by omega) (fun c_46 => ?_)
      refine r_iconst (v := nI 0) dX8_laysTree_49 (by decide) ?_
      refine r_istore_2 dX8_laysTree_50 ?_
      have hb : bfs (NT.E t) (NT.fi t) (NT.se t) (opS (snOf t) sh) (n + 1) k s = bfs (NT.E t) (NT.fi t) (NT.se t) (opS (snOf t) sh) n (k + 1) (spr (NT.fi t) (NT.se t) (opS (snOf t) sh) (s.2.1 k) (NT.E t) 0 s) := by rw [bfs, if_pos hks]
      rw [hb]
      refine mtree_in ok sh k (NT.E t) 0 s h (by omega) nc hs tc tw hks (fun h' tc' f' => ?_)
      refine r_iincN_1 dX8_laysTree_185 ?_
      refine r_goto 41 dX8_laysTree_188 (by decide) ?_
      exact ih (k + 1) _ _ (by omega) (nc.fm (f'.wk tS_s tF_s)) (by rw [f'.1 28 (fun q => by rcases q with q | q <;> omega)]; exact hs) tc' (spr_all ok.ends (NT.E t) 0 s (by omega) tw hks).1 (fr.tr f')
    · refine r_iload_1 dX8_laysTree_41 ?_
      refine r_aload_0 dX8_laysTree_42 ?_
      refine r_getI dX8_laysTree_43 fl_X8_278 rfl ?_
      rw [tc.2.1]
      refine r_icmpN_ge 191 dX8_laysTree_46 (by decide) (by omega) (by omega) (fun c_46 => ?_) (fun c_46 => by omega)
      refine r_vret dX8_laysTree_191 rfl ?_
      exact ⟨rfl, by rw [bfs, if_neg hks]; exact tc, fr⟩
set_option maxRecDepth 100000 in
set_option maxHeartbeats 4000000 in
theorem mtree_init {Q : Option Value → PH → Prop} (h0 : PH) : ∀ (m j : Nat) (h : PH), j + m = 9 → (∀ i, i < j → h.1 85 i = -2) → FM tS tF h0 h → (∀ h', (∀ i, i < 9 → h'.1 85 i = -2) → FM tS tF h0 h' → RT mX8_laysTree 2 22 [some (.ref 74), some (.int (nI 9)), none, none, none] [] h' Q) → RT mX8_laysTree 2 2 [some (.ref 74), some (.int (nI j)), none, none, none] [] h Q := by
  intro m
  induction m with
  | zero =>
    intro j h hj hi fr K
    have : j = 9 := by omega
    subst this
    refine r_iload_1 dX8_laysTree_2 ?_
    refine r_bipush (v := nI 9) dX8_laysTree_3 (by decide) ?_
    refine r_icmpN_ge 22 dX8_laysTree_5 (by decide) (by omega) (by omega) (fun c_5 => ?_) (fun c_5 => by omega)
    exact K h hi fr
  | succ m ih =>
    intro j h hj hi fr K
    refine r_iload_1 dX8_laysTree_2 ?_
    refine r_bipush (v := nI 9) dX8_laysTree_3 (by decide) ?_
    refine r_icmpN_ge 22 dX8_laysTree_5 (by decide) (by omega) (by omega) (fun c_5 => by omega) (fun c_5 => ?_)
    refine r_aload_0 dX8_laysTree_8 ?_
    refine r_getR (a := 85) dX8_laysTree_9 fl_X8_46 rfl rfl ?_
    refine r_iload_1 dX8_laysTree_12 ?_
    refine r_bipush (v := (-2)) dX8_laysTree_13 (by decide) ?_
    refine r_iastN dX8_laysTree_15 rfl (by omega) ?_
    refine r_iincN_1 dX8_laysTree_16 ?_
    refine r_goto 2 dX8_laysTree_19 (by decide) ?_
    refine ih (j + 1) _ (by omega) (fun i hij => ?_) (fr.pI (by decide) (Or.inl rfl)) K
    simp (decide := true) only [pI_1, pI_2, pL_1, pL_2, pA_1, pA_2, pB_1, pB_2, Nat.add_left_cancel_iff, Nat.add_right_cancel_iff, Nat.add_eq_left, Nat.left_eq_add, true_and, false_and, and_false, and_true, and_self, if_true, if_false, ite_true, ite_false]
    by_cases q : i = j
    · rw [if_pos q]
    · rw [if_neg q]; exact hi i (by omega)
set_option maxRecDepth 100000 in
set_option maxHeartbeats 4000000 in
theorem q_laysTree {t : NT} (ok : okT t) (sh : Int32) {h : PH} (nc : NetM h t) (hs : h.1 74 28 = sh) : Con mX8_laysTree 2 [.ref 74] h (fun a h' => a = none ∧ (TreeM h' (trS (snOf t) sh) ∧ FM tS tF h h')) := by
  refine Con.mk (by decide) ?_
  show RT _ _ 0 [some (.ref 74), none, none, none, none] [] _ _
  refine r_iconst (v := nI 0) dX8_laysTree_0 (by decide) ?_
  refine r_istore_1 dX8_laysTree_1 ?_
  refine mtree_init h 9 0 h (by omega) (fun i hi => by omega) FM.rf (fun h1 hi f1 => ?_)
  refine r_aload_0 dX8_laysTree_22 ?_
  refine r_iconst (v := 1) dX8_laysTree_23 (by decide) ?_
  refine r_putI dX8_laysTree_24 fl_X8_266 rfl rfl rfl ?_
  refine r_aload_0 dX8_laysTree_27 ?_
  refine r_getR (a := 86) dX8_laysTree_28 fl_X8_49 rfl rfl ?_
  refine r_iconst (v := nI 0) dX8_laysTree_31 (by decide) ?_
  refine r_iconst (v := 0) dX8_laysTree_32 (by decide) ?_
  refine r_iastN dX8_laysTree_33 rfl (by omega) ?_
  refine r_aload_0 dX8_laysTree_34 ?_
  refine r_iconst (v := 1) dX8_laysTree_35 (by decide) ?_
  refine r_putI dX8_laysTree_36 fl_X8_278 rfl rfl rfl ?_
  refine r_iconst (v := nI 0) dX8_laysTree_39 (by decide) ?_
  refine r_istore_1 dX8_laysTree_40 ?_
  have f2 : FM tS tF h (pI (pI (pI h1 74 29 1) 86 0 0) 74 32 1) := ((f1.pF (Or.inl rfl)).pI (by decide) (Or.inr rfl)).pF (Or.inr rfl)
  refine mtree_out ok sh h 9 0 ts0 _ (by omega) (nc.fm (f2.wk tS_s tF_s)) (by rw [f2.1 28 (fun q => by rcases q with q | q <;> omega)]; exact hs) ?_ (TW0 _ _ _ _) f2
  refine ⟨fun i hi => ?_, ?_, fun k hk => ?_, fun j hj => ?_⟩
  all_goals simp (decide := true) only [pI_1, pI_2, pL_1, pL_2, pA_1, pA_2, pB_1, pB_2, Nat.add_left_cancel_iff, Nat.add_right_cancel_iff, Nat.add_eq_left, Nat.left_eq_add, true_and, false_and, and_false, and_true, and_self, if_true, if_false, ite_true, ite_false]
  · exact (by decide +kernel : ∀ i, i < 32 → bt (1 : Int32) i = decide (i = 0)) i hi
  · have : k = 0 := by simp [ts0] at hk; omega
    subst this; simp [ts0]; try rfl
  · simp [ts0]; exact hi j hj

