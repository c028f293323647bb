/-! ===== the reference: solves, laysEarly ===== -/
def SolM (h : PH) (t : NT) (x : Int32 × Nat × Bool) : Prop := NetM h t ∧ h.1 74 28 = x.1 ∧ h.1 74 39 = nI x.2.1 ∧ h.1 74 41 = bI x.2.2 ∧ h.1 74 40 = nI (flS (snOf t) x.1 60).2 ∧ TreeM h (trS (snOf t) x.1) ∧ RingsM h (rgS (snOf t) x.1) ∧ (∀ e, e < 14 → h.2 87 e = (flS (snOf t) x.1 60).1 e) ∧ (∀ i, i < (trS (snOf t) x.1).1 → h.2 91 ((trS (snOf t) x.1).2.1 i) = hdS (snOf t) x.1 ((trS (snOf t) x.1).2.1 i))
def swF : Nat → Prop := fun k => k = 40
def swS : Nat → Prop := fun y => y = 87
theorem swF_s : ∀ x, swF x → slF x := fun x q => by have q : x = 40 := q; unfold slF; omega
theorem swS_s : ∀ x, swS x → slS x := fun x q => by have q : x = 87 := q; unfold slS; omega
theorem SWM.fm {F : Nat → Prop} {h h' : PH} {f : FL} (s : SWM h h' f) : FM swS F h h' := ⟨fun k _ => by rw [s.2.1], fun y _ hy => s.2.2 y hy, fun _ => (s.2.2 74 (show ¬ (74 = 87) by decide)).2⟩
theorem p40 {h : PH} {x : Int32} : FM swS swF h (pI h 74 40 x) := FM.rf.pF rfl
theorem TreeM.f {h : PH} {s : TS} (c : TreeM h s) (k : Nat) (x : Int32) (h1 : k ≠ 29) (h2 : k ≠ 32) : TreeM (pI h 74 k x) s := c.ext (pI_ne 74 29 (Or.inr (Ne.symm h1))) (pI_ne 74 32 (Or.inr (Ne.symm h2))) (funext fun j => pI_ne 85 j (Or.inl (by decide))) (funext fun j => pI_ne 86 j (Or.inl (by decide)))
theorem RingsM.f {h : PH} {R : List RG} (c : RingsM h R) (k : Nat) (x : Int32) (h1 : k ≠ 34) : RingsM (pI h 74 k x) R := c.ext (pI_ne 74 34 (Or.inr (Ne.symm h1))) (funext fun j => pI_ne 88 j (Or.inl (by decide))) (funext fun j => pI_ne 89 j (Or.inl (by decide))) (funext fun j => pI_ne 90 j (Or.inl (by decide)))
theorem NetM.f {h : PH} {t : NT} (c : NetM h t) (k : Nat) (x : Int32) (hk : slF k) : NetM (pI h 74 k x) t := c.fm (FM.rf.pF hk)
theorem it_s (n : SN) (sh : Int32) (c : Nat) : (gS n sh (itS n sh c)).1 = itS n sh (c + 1) := (itr_succ (fun x => (gS n sh x).1) c (bgS n sh)).symm
set_option maxRecDepth 100000 in
set_option maxHeartbeats 4000000 in
theorem msw {t : NT} (ok : okT t) (sh : Int32) (h0 : PH) {Q : Option Value → PH → Prop} : ∀ (m c : Nat) (h : PH), c + m = 60 → NetM h t → TreeM h (trS (snOf t) sh) → RingsM h (rgS (snOf t) sh) → (∀ e, e < 14 → h.2 87 e = itS (snOf t) sh c e) → h.1 74 40 = nI c → FM swS swF h0 h → (∀ h', NetM h' t → TreeM h' (trS (snOf t) sh) → RingsM h' (rgS (snOf t) sh) → (∀ e, e < 14 → h'.2 87 e = (swl (gS (snOf t) sh) m c (itS (snOf t) sh c)).1 e) → h'.1 74 40 = nI (swl (gS (snOf t) sh) m c (itS (snOf t) sh c)).2 → FM swS swF h0 h' → RT mX8_solves 6 73 [some (.ref 74), none, none, none, none] [] h' Q) → RT mX8_solves 6 42 [some (.ref 74), some (.int 1), some (.int 1), none, none] [] h Q := by
  intro m
  induction m with
  | zero =>
    intro c h hc nc tc rc hf h40 fr K
    have : c = 60 := by omega
    subst this
    refine r_iload_2 dX8_solves_42 ?_
    refine r_if_eq 73 dX8_solves_43 (by decide) (fun c_43 => by exact absurd c_43 (by decide)) (fun c_43 => ?_)
    refine r_aload_0 dX8_solves_46 ?_
    refine r_getI dX8_solves_47 fl_X8_373 rfl ?_
    rw [h40]
    refine r_bipush (v := nI 60) dX8_solves_50 (by decide) ?_
    refine r_icmpN_ge 73 dX8_solves_52 (by decide) (by omega) (by omega) (fun c_52 => ?_) (fun c_52 => by omega)
    refine RT.sub (lv' := [some (.ref 74), none, none, none, none]) (by simp [lsub]) ?_
    exact K h nc tc rc hf h40 fr
  | succ m ih =>
    intro c h hc nc tc rc hf h40 fr K
    have fb := (ok.ok.it sh (k := c) (by omega)).1
    have e40 : ∀ {h1 : PH}, h1.1 = h.1 → h1.1 74 40 = nI c := fun e => by rw [e]; exact h40
    simp only [swl, it_s] at K
    cases hg : (gS (snOf t) sh (itS (snOf t) sh c)).2
    · refine r_iload_2 dX8_solves_42 ?_
      refine r_if_eq 73 dX8_solves_43 (by decide) (fun c_43 => by exact absurd c_43 (by decide)) (fun c_43 => ?_)
      refine r_aload_0 dX8_solves_46 ?_
      refine r_getI dX8_solves_47 fl_X8_373 rfl ?_
      rw [h40]
      refine r_bipush (v := nI 60) dX8_solves_50 (by decide) ?_
      refine r_icmpN_ge 73 dX8_solves_52 (by decide) (by omega) (by omega) (fun c_52 => by omega) (fun c_52 => ?_)
      refine r_aload_0 dX8_solves_55 ?_
      refine r_cVQ0 mX8_sweep dX8_solves_56 ml_X8_376 mo_X8_sweep rfl (q_sweep ok sh nc rc fb hf) (by decide) (fun h1 sw1 => ?_)
      rw [hg]
      refine r_istore_2 dX8_solves_59 ?_
      refine r_aload_0 dX8_solves_60 ?_
      refine r_dupr dX8_solves_61 ?_
      refine r_getI dX8_solves_62 fl_X8_373 rfl ?_
      rw [e40 sw1.2.1]
      refine r_iconst (v := 1) dX8_solves_65 (by decide) ?_
      refine r_iadd dX8_solves_66 ?_
      rw [nI_1]
      refine r_putI dX8_solves_67 fl_X8_373 rfl rfl rfl ?_
      refine r_goto 42 dX8_solves_70 (by decide) ?_
      have sw1' := sw1
      rw [it_s] at sw1'
      have fA := (sw1'.fm (F := swF)).tr (p40 (x := nI (c + 1)))
      have ncA := nc.fm (fA.wk swS_s swF_s)
      have tcA : TreeM (pI h1 74 40 (nI (c + 1))) (trS (snOf t) sh) := (tc.ex1 sw1.2.1).f 40 _ (by decide) (by decide)
      have rcA : RingsM (pI h1 74 40 (nI (c + 1))) (rgS (snOf t) sh) := (rc.ex1 sw1.2.1).f 40 _ (by decide)
      refine r_iload_2 dX8_solves_42 ?_
      refine r_if_eq 73 dX8_solves_43 (by decide) (fun c_43 => ?_) (fun c_43 => by exact absurd rfl c_43)
      refine RT.sub (lv' := [some (.ref 74), none, none, none, none]) (by simp [lsub]) ?_
      simp only [hg, Bool.false_eq_true, if_false] at K
      exact K _ ncA tcA rcA sw1'.1 pI_eq (fr.tr fA)
    · refine r_iload_2 dX8_solves_42 ?_
      refine r_if_eq 73 dX8_solves_43 (by decide) (fun c_43 => by exact absurd c_43 (by decide)) (fun c_43 => ?_)
      refine r_aload_0 dX8_solves_46 ?_
      refine r_getI dX8_solves_47 fl_X8_373 rfl ?_
      rw [h40]
      refine r_bipush (v := nI 60) dX8_solves_50 (by decide) ?_
      refine r_icmpN_ge 73 dX8_solves_52 (by decide) (by omega) (by omega) (fun c_52 => by omega) (fun c_52 => ?_)
      refine r_aload_0 dX8_solves_55 ?_
      refine r_cVQ0 mX8_sweep dX8_solves_56 ml_X8_376 mo_X8_sweep rfl (q_sweep ok sh nc rc fb hf) (by decide) (fun h1 sw1 => ?_)
      rw [hg]
      refine r_istore_2 dX8_solves_59 ?_
      refine r_aload_0 dX8_solves_60 ?_
      refine r_dupr dX8_solves_61 ?_
      refine r_getI dX8_solves_62 fl_X8_373 rfl ?_
      rw [e40 sw1.2.1]
      refine r_iconst (v := 1) dX8_solves_65 (by decide) ?_
      refine r_iadd dX8_solves_66 ?_
      rw [nI_1]
      refine r_putI dX8_solves_67 fl_X8_373 rfl rfl rfl ?_
      refine r_goto 42 dX8_solves_70 (by decide) ?_
      have sw1' := sw1
      rw [it_s] at sw1'
      have fA := (sw1'.fm (F := swF)).tr (p40 (x := nI (c + 1)))
      have ncA := nc.fm (fA.wk swS_s swF_s)
      have tcA : TreeM (pI h1 74 40 (nI (c + 1))) (trS (snOf t) sh) := (tc.ex1 sw1.2.1).f 40 _ (by decide) (by decide)
      have rcA : RingsM (pI h1 74 40 (nI (c + 1))) (rgS (snOf t) sh) := (rc.ex1 sw1.2.1).f 40 _ (by decide)
      simp only [hg, if_true] at K
      exact ih (c + 1) _ (by omega) ncA tcA rcA sw1'.1 pI_eq (fr.tr fA) K

def RndM (h0 h : PH) (t : NT) (sh : Int32) (r : Nat) : Prop := NetM h t ∧ h.1 74 28 = sh ∧ h.1 74 39 = nI (r + 1) ∧ h.1 74 40 = nI (flS (snOf t) sh 60).2 ∧ TreeM h (trS (snOf t) sh) ∧ RingsM h (rgS (snOf t) sh) ∧ (∀ e, e < 14 → h.2 87 e = (flS (snOf t) sh 60).1 e) ∧ (∀ i, i < (trS (snOf t) sh).1 → h.2 91 ((trS (snOf t) sh).2.1 i) = hdS (snOf t) sh ((trS (snOf t) sh).2.1 i)) ∧ FM slS slF h0 h
theorem RndM.fin {h0 h : PH} {t : NT} {sh : Int32} {r : Nat} (a : RndM h0 h t sh r) (b : Bool) {x y : Int32} (hx : x = bI b) (hy : y = sh) : SolM (pI (pI h 74 41 x) 74 28 y) t (sh, r + 1, b) ∧ FM slS slF h0 (pI (pI h 74 41 x) 74 28 y) := by
  obtain ⟨a1, a2, a3, a4, a5, a6, a7, a8, a9⟩ := a
  have z41 : slF 41 := by unfold slF; omega
  have z28 : slF 28 := by unfold slF; omega
  subst hx hy
  refine ⟨⟨(a1.f 41 _ z41).f 28 _ z28, pI_eq, ?_, ?_, ?_, (a5.f 41 _ (by decide) (by decide)).f 28 _ (by decide) (by decide), (a6.f 41 _ (by decide)).f 28 _ (by decide), a7, a8⟩, (a9.pF z41).pF z28⟩
  · rw [pI_ne 74 39 (Or.inr (by decide)), pI_ne 74 39 (Or.inr (by decide))]; exact a3
  · rw [pI_ne 74 41 (Or.inr (by decide))]; exact pI_eq
  · rw [pI_ne 74 40 (Or.inr (by decide)), pI_ne 74 40 (Or.inr (by decide))]; exact a4
theorem x0 (x : Int32) : x ^^^ 0 = x := by simp
set_option maxRecDepth 100000 in
set_option maxHeartbeats 4000000 in
theorem msolve {t : NT} (ok : okT t) (h0 : PH) : ∀ (m r : Nat) (sh : Int32) (h : PH), r + m = 20 → 0 < m → NetM h t → h.1 74 28 = sh → h.1 74 39 = nI r → FM slS slF h0 h → RT mX8_solves 6 17 [some (.ref 74), some (.int 1), none, none, none] [] h (fun a h' => a = none ∧ (SolM h' t (slv (snOf t) m r sh) ∧ FM slS slF h0 h')) := by
  intro m
  induction m with
  | zero => intro r sh h hm h0m; omega
  | succ m ih =>
    intro r sh h hm _ nc hs hr fr
    have z39 : slF 39 := by unfold slF; omega
    have z40 : slF 40 := by unfold slF; omega
    have z41 : slF 41 := by unfold slF; omega
    have z28 : slF 28 := by unfold slF; omega
    have hlt : ∀ e, turnS (snOf t) sh = some e → e < 14 := fun e he => by have := turn_lt he; have := ok.2.2.1; omega
    have K : ∀ h3, RndM h0 h3 t sh r → RT mX8_solves 6 77 [some (.ref 74), none, none, none, none] [] h3 (fun a h' => a = none ∧ (SolM h' t (slv (snOf t) (m + 1) r sh) ∧ FM slS slF h0 h')) := by
      intro h3 rd
      have rd' := rd
      obtain ⟨a1, a2, a3, a4, a5, a6, a7, a8, a9⟩ := rd'
      have hW := q_wrongWay ok sh a1 a5 a2 a7
      have hR := q_rightWay ok sh a1 a5 a2 a8
      have b39 : ∀ x, (pI h3 74 41 x).1 74 39 = nI (r + 1) := fun x => (pI_ne 74 39 (Or.inr (by decide))).trans a3
      have b28 : ∀ x, (pI h3 74 41 x).1 74 28 = sh := fun x => (pI_ne 74 28 (Or.inr (by decide))).trans a2
      have go : ∀ e, turnS (snOf t) sh = some e → m ≠ 0 → RT mX8_solves 6 17 [some (.ref 74), some (.int 1), none, none, none] [] (pI (pI h3 74 41 0) 74 28 (flipS sh e)) (fun a h' => a = none ∧ (SolM h' t (slv (snOf t) (m + 1) r sh) ∧ FM slS slF h0 h')) := by
        intro e ht hm0
        have e1 : slv (snOf t) (m + 1) r sh = slv (snOf t) m (r + 1) (flipS sh e) := by rw [slv, ht]; simp [hm0]
        rw [e1]
        exact ih (r + 1) (flipS sh e) _ (by omega) (by omega) ((a1.f 41 _ z41).f 28 _ z28) pI_eq ((pI_ne 74 39 (Or.inr (by decide))).trans (b39 0)) ((a9.pF z41).pF z28)
      cases hw : wrongS (snOf t) sh with
      | none =>
        rw [hw] at hW
        cases hq : rightS (snOf t) sh with
        | none =>
          rw [hq] at hR
          have ht : turnS (snOf t) sh = none := by unfold turnS; rw [hw, hq]
          refine r_aload_0 dX8_solves_77 ?_
          refine r_cV0 mX8_wrongWay dX8_solves_78 ml_X8_382 mo_X8_wrongWay rfl hW (by decide) ?_
          refine r_istore_3 dX8_solves_81 ?_
          refine r_iload_3 dX8_solves_82 ?_
          refine r_iconst (v := (-1)) dX8_solves_83 (by decide) ?_
          refine r_icmp_ne 94 dX8_solves_84 (by decide) (fun c_84 => by exact absurd rfl c_84) (fun c_84 => ?_)
          refine r_aload_0 dX8_solves_87 ?_
          refine r_cV0 mX8_rightWay dX8_solves_88 ml_X8_385 mo_X8_rightWay rfl hR (by decide) ?_
          refine r_goto 95 dX8_solves_91 (by decide) ?_
          refine r_istore_4 dX8_solves_95 ?_
          refine r_aload_0 dX8_solves_97 ?_
          refine r_iload_3 dX8_solves_98 ?_
          refine r_iconst (v := (-1)) dX8_solves_99 (by decide) ?_
          refine r_icmp_ne 113 dX8_solves_100 (by decide) (fun c_100 => by exact absurd rfl c_100) (fun c_100 => ?_)
          refine r_iload_4 dX8_solves_103 ?_
          refine r_iconst (v := (-1)) dX8_solves_105 (by decide) ?_
          refine r_icmp_ne 113 dX8_solves_106 (by decide) (fun c_106 => by exact absurd rfl c_106) (fun c_106 => ?_)
          refine r_iconst (v := 1) dX8_solves_109 (by decide) ?_
          refine r_goto 114 dX8_solves_110 (by decide) ?_
          refine r_putZ dX8_solves_114 fl_X8_366 rfl rfl rfl (by first | exact Or.inl rfl | exact Or.inr rfl) ?_
          refine r_aload_0 dX8_solves_117 ?_
          refine r_getI dX8_solves_118 fl_X8_366 rfl ?_
          rw [pI_eq]
          refine r_if_ne 137 dX8_solves_121 (by decide) (fun c_121 => ?_) (fun c_121 => by exact absurd c_121 (by decide))
          refine r_iconst (v := 0) dX8_solves_137 (by decide) ?_
          refine r_istore_1 dX8_solves_138 ?_
          refine r_aload_0 dX8_solves_139 ?_
          refine r_dupr dX8_solves_140 ?_
          refine r_getI dX8_solves_141 fl_X8_263 rfl ?_
          rw [b28]
          refine r_iload_1 dX8_solves_144 ?_
          refine r_if_eq 164 dX8_solves_145 (by decide) (fun c_145 => ?_) (fun c_145 => by exact absurd rfl c_145)
          refine r_iconst (v := 0) dX8_solves_164 (by decide) ?_
          refine r_ixor dX8_solves_165 ?_
          rw [x0]
          refine r_putI dX8_solves_166 fl_X8_263 rfl rfl rfl ?_
          refine r_goto 17 dX8_solves_169 (by decide) ?_
          refine r_iload_1 dX8_solves_17 ?_
          refine r_if_eq 172 dX8_solves_18 (by decide) (fun c_18 => ?_) (fun c_18 => by exact absurd rfl c_18)
          refine r_vret dX8_solves_172 rfl ?_
          have e1 : slv (snOf t) (m + 1) r sh = (sh, r + 1, true) := by rw [slv, ht]
          rw [e1]
          have z := rd.fin true (x := 1) (y := sh) rfl rfl
          exact ⟨rfl, z⟩
        | some e =>
          rw [hq] at hR
          have ht : turnS (snOf t) sh = some e := by unfold turnS; rw [hw, hq]
          have he := hlt e ht
          by_cases hm0 : m = 0
          · refine r_aload_0 dX8_solves_77 ?_
            refine r_cV0 mX8_wrongWay dX8_solves_78 ml_X8_382 mo_X8_wrongWay rfl hW (by decide) ?_
            refine r_istore_3 dX8_solves_81 ?_
            refine r_iload_3 dX8_solves_82 ?_
            refine r_iconst (v := (-1)) dX8_solves_83 (by decide) ?_
            refine r_icmp_ne 94 dX8_solves_84 (by decide) (fun c_84 => by exact absurd rfl c_84) (fun c_84 => ?_)
            refine r_aload_0 dX8_solves_87 ?_
            refine r_cV0 mX8_rightWay dX8_solves_88 ml_X8_385 mo_X8_rightWay rfl hR (by decide) ?_
            refine r_goto 95 dX8_solves_91 (by decide) ?_
            refine r_istore_4 dX8_solves_95 ?_
            refine r_aload_0 dX8_solves_97 ?_
            refine r_iload_3 dX8_solves_98 ?_
            refine r_iconst (v := (-1)) dX8_solves_99 (by decide) ?_
            refine r_icmp_ne 113 dX8_solves_100 (by decide) (fun c_100 => by exact absurd rfl c_100) (fun c_100 => ?_)
            refine r_iload_4 dX8_solves_103 ?_
            refine r_iconst (v := (-1)) dX8_solves_105 (by decide) ?_
            refine r_icmp_ne 113 dX8_solves_106 (by decide) (fun c_106 => ?_) (fun c_106 => by exact absurd c_106 (nI_ne_m1 (by omega)))
            refine r_iconst (v := 0) dX8_solves_113 (by decide) ?_
            refine r_putZ dX8_solves_114 fl_X8_366 rfl rfl rfl (by first | exact Or.inl rfl | exact Or.inr rfl) ?_
            refine r_aload_0 dX8_solves_117 ?_
            refine r_getI dX8_solves_118 fl_X8_366 rfl ?_
            rw [pI_eq]
            refine r_if_ne 137 dX8_solves_121 (by decide) (fun c_121 => by exact absurd rfl c_121) (fun c_121 => ?_)
            refine r_aload_0 dX8_solves_124 ?_
            refine r_getI dX8_solves_125 fl_X8_363 rfl ?_
            rw [b39]
            refine r_bipush (v := nI 20) dX8_solves_128 (by decide) ?_
            refine r_icmpN_ge 137 dX8_solves_130 (by decide) (by omega) (by omega) (fun c_130 => ?_) (fun c_130 => by omega)
            refine r_iconst (v := 0) dX8_solves_137 (by decide) ?_
            refine r_istore_1 dX8_solves_138 ?_
            refine r_aload_0 dX8_solves_139 ?_
            refine r_dupr dX8_solves_140 ?_
            refine r_getI dX8_solves_141 fl_X8_263 rfl ?_
            rw [b28]
            refine r_iload_1 dX8_solves_144 ?_
            refine r_if_eq 164 dX8_solves_145 (by decide) (fun c_145 => ?_) (fun c_145 => by exact absurd rfl c_145)
            refine r_iconst (v := 0) dX8_solves_164 (by decide) ?_
            refine r_ixor dX8_solves_165 ?_
            rw [x0]
            refine r_putI dX8_solves_166 fl_X8_263 rfl rfl rfl ?_
            refine r_goto 17 dX8_solves_169 (by decide) ?_
            refine r_iload_1 dX8_solves_17 ?_
            refine r_if_eq 172 dX8_solves_18 (by decide) (fun c_18 => ?_) (fun c_18 => by exact absurd rfl c_18)
            refine r_vret dX8_solves_172 rfl ?_
            have e1 : slv (snOf t) (m + 1) r sh = (sh, r + 1, false) := by rw [slv, ht]; simp [hm0]
            rw [e1]
            have z := rd.fin false (x := 0) (y := sh) rfl rfl
            exact ⟨rfl, z⟩
          · refine r_aload_0 dX8_solves_77 ?_
            refine r_cV0 mX8_wrongWay dX8_solves_78 ml_X8_382 mo_X8_wrongWay rfl hW (by decide) ?_
            refine r_istore_3 dX8_solves_81 ?_
            refine r_iload_3 dX8_solves_82 ?_
            refine r_iconst (v := (-1)) dX8_solves_83 (by decide) ?_
            refine r_icmp_ne 94 dX8_solves_84 (by decide) (fun c_84 => by exact absurd rfl c_84) (fun c_84 => ?_)
            refine r_aload_0 dX8_solves_87 ?_
            refine r_cV0 mX8_rightWay dX8_solves_88 ml_X8_385 mo_X8_rightWay rfl hR (by decide) ?_
            refine r_goto 95 dX8_solves_91 (by decide) ?_
            refine r_istore_4 dX8_solves_95 ?_
            refine r_aload_0 dX8_solves_97 ?_
            refine r_iload_3 dX8_solves_98 ?_
            refine r_iconst (v := (-1)) dX8_solves_99 (by decide) ?_
            refine r_icmp_ne 113 dX8_solves_100 (by decide) (fun c_100 => by exact absurd rfl c_100) (fun c_100 => ?_)
            refine r_iload_4 dX8_solves_103 ?_
            refine r_iconst (v := (-1)) dX8_solves_105 (by decide) ?_
            refine r_icmp_ne 113 dX8_solves_106 (by decide) (fun c_106 => ?_) (fun c_106 => by exact absurd c_106 (nI_ne_m1 (by omega)))
            refine r_iconst (v := 0) dX8_solves_113 (by decide) ?_
            refine r_putZ dX8_solves_114 fl_X8_366 rfl rfl rfl (by first | exact Or.inl rfl | exact Or.inr rfl) ?_
            refine r_aload_0 dX8_solves_117 ?_
            refine r_getI dX8_solves_118 fl_X8_366 rfl ?_
            rw [pI_eq]
            refine r_if_ne 137 dX8_solves_121 (by decide) (fun c_121 => by exact absurd rfl c_121) (fun c_121 => ?_)
            refine r_aload_0 dX8_solves_124 ?_
            refine r_getI dX8_solves_125 fl_X8_363 rfl ?_
            rw [b39]
            refine r_bipush (v := nI 20) dX8_solves_128 (by decide) ?_
            refine r_icmpN_ge 137 dX8_solves_130 (by decide) (by omega) (by omega) (fun c_130 => by omega) (fun c_130 => ?_)
            refine r_iconst (v := 1) dX8_solves_133 (by decide) ?_
            refine r_goto 138 dX8_solves_134 (by decide) ?_
            refine r_istore_1 dX8_solves_138 ?_
            refine r_aload_0 dX8_solves_139 ?_
            refine r_dupr dX8_solves_140 ?_
            refine r_getI dX8_solves_141 fl_X8_263 rfl ?_
            rw [b28]
            refine r_iload_1 dX8_solves_144 ?_
            refine r_if_eq 164 dX8_solves_145 (by decide) (fun c_145 => by exact absurd c_145 (by decide)) (fun c_145 => ?_)
            refine r_iconst (v := 1) dX8_solves_148 (by decide) ?_
            refine r_iload_3 dX8_solves_149 ?_
            refine r_iconst (v := (-1)) dX8_solves_150 (by decide) ?_
            refine r_icmp_eq 158 dX8_solves_151 (by decide) (fun c_151 => ?_) (fun c_151 => by exact absurd rfl c_151)
            refine r_iload_4 dX8_solves_158 ?_
            refine r_ishl dX8_solves_160 ?_
            refine r_goto 165 dX8_solves_161 (by decide) ?_
            refine r_ixor dX8_solves_165 ?_
            rw [show sh ^^^ ((1 : Int32) <<< (oI (some e) &&& 31)) = flipS sh e from rfl]
            refine r_putI dX8_solves_166 fl_X8_263 rfl rfl rfl ?_
            refine r_goto 17 dX8_solves_169 (by decide) ?_
            refine RT.sub (lv' := [some (.ref 74), some (.int 1), none, none, none]) (by simp [lsub]) ?_
            exact go e ht hm0
      | some e =>
        rw [hw] at hW
        have ht : turnS (snOf t) sh = some e := by unfold turnS; rw [hw]
        have he := hlt e ht
        by_cases hm0 : m = 0
        · refine r_aload_0 dX8_solves_77 ?_
          refine r_cV0 mX8_wrongWay dX8_solves_78 ml_X8_382 mo_X8_wrongWay rfl hW (by decide) ?_
          refine r_istore_3 dX8_solves_81 ?_
          refine r_iload_3 dX8_solves_82 ?_
          refine r_iconst (v := (-1)) dX8_solves_83 (by decide) ?_
          refine r_icmp_ne 94 dX8_solves_84 (by decide) (fun c_84 => ?_) (fun c_84 => by exact absurd c_84 (nI_ne_m1 (by omega)))
          refine r_iconst (v := (-1)) dX8_solves_94 (by decide) ?_
          refine r_istore_4 dX8_solves_95 ?_
          refine r_aload_0 dX8_solves_97 ?_
          refine r_iload_3 dX8_solves_98 ?_
          refine r_iconst (v := (-1)) dX8_solves_99 (by decide) ?_
          refine r_icmp_ne 113 dX8_solves_100 (by decide) (fun c_100 => ?_) (fun c_100 => by exact absurd c_100 (nI_ne_m1 (by omega)))
          refine r_iconst (v := 0) dX8_solves_113 (by decide) ?_
          refine r_putZ dX8_solves_114 fl_X8_366 rfl rfl rfl (by first | exact Or.inl rfl | exact Or.inr rfl) ?_
          refine r_aload_0 dX8_solves_117 ?_
          refine r_getI dX8_solves_118 fl_X8_366 rfl ?_
          rw [pI_eq]
          refine r_if_ne 137 dX8_solves_121 (by decide) (fun c_121 => by exact absurd rfl c_121) (fun c_121 => ?_)
          refine r_aload_0 dX8_solves_124 ?_
          refine r_getI dX8_solves_125 fl_X8_363 rfl ?_
          rw [b39]
          refine r_bipush (v := nI 20) dX8_solves_128 (by decide) ?_
          refine r_icmpN_ge 137 dX8_solves_130 (by decide) (by omega) (by omega) (fun c_130 => ?_) (fun c_130 => by omega)
          refine r_iconst (v := 0) dX8_solves_137 (by decide) ?_
          refine r_istore_1 dX8_solves_138 ?_
          refine r_aload_0 dX8_solves_139 ?_
          refine r_dupr dX8_solves_140 ?_
          refine r_getI dX8_solves_141 fl_X8_263 rfl ?_
          rw [b28]
          refine r_iload_1 dX8_solves_144 ?_
          refine r_if_eq 164 dX8_solves_145 (by decide) (fun c_145 => ?_) (fun c_145 => by exact absurd rfl c_145)
          refine r_iconst (v := 0) dX8_solves_164 (by decide) ?_
          refine r_ixor dX8_solves_165 ?_
          rw [x0]
          refine r_putI dX8_solves_166 fl_X8_263 rfl rfl rfl ?_
          refine r_goto 17 dX8_solves_169 (by decide) ?_
          refine r_iload_1 dX8_solves_17 ?_
          refine r_if_eq 172 dX8_solves_18 (by decide) (fun c_18 => ?_) (fun c_18 => by exact absurd rfl c_18)
          refine r_vret dX8_solves_172 rfl ?_
          have e1 : slv (snOf t) (m + 1) r sh = (sh, r + 1, false) := by rw [slv, ht]; simp [hm0]
          rw [e1]
          have z := rd.fin false (x := 0) (y := sh) rfl rfl
          exact ⟨rfl, z⟩
        · refine r_aload_0 dX8_solves_77 ?_
          refine r_cV0 mX8_wrongWay dX8_solves_78 ml_X8_382 mo_X8_wrongWay rfl hW (by decide) ?_
          refine r_istore_3 dX8_solves_81 ?_
          refine r_iload_3 dX8_solves_82 ?_
          refine r_iconst (v := (-1)) dX8_solves_83 (by decide) ?_
          refine r_icmp_ne 94 dX8_solves_84 (by decide) (fun c_84 => ?_) (fun c_84 => by exact absurd c_84 (nI_ne_m1 (by omega)))
          refine r_iconst (v := (-1)) dX8_solves_94 (by decide) ?_
          refine r_istore_4 dX8_solves_95 ?_
          refine r_aload_0 dX8_solves_97 ?_
          refine r_iload_3 dX8_solves_98 ?_
          refine r_iconst (v := (-1)) dX8_solves_99 (by decide) ?_
          refine r_icmp_ne 113 dX8_solves_100 (by decide) (fun c_100 => ?_) (fun c_100 => by exact absurd c_100 (nI_ne_m1 (by omega)))
          refine r_iconst (v := 0) dX8_solves_113 (by decide) ?_
          refine r_putZ dX8_solves_114 fl_X8_366 rfl rfl rfl (by first | exact Or.inl rfl | exact Or.inr rfl) ?_
          refine r_aload_0 dX8_solves_117 ?_
          refine r_getI dX8_solves_118 fl_X8_366 rfl ?_
          rw [pI_eq]
          refine r_if_ne 137 dX8_solves_121 (by decide) (fun c_121 => by exact absurd rfl c_121) (fun c_121 => ?_)
          refine r_aload_0 dX8_solves_124 ?_
          refine r_getI dX8_solves_125 fl_X8_363 rfl ?_
          rw [b39]
          refine r_bipush (v := nI 20) dX8_solves_128 (by decide) ?_
          refine r_icmpN_ge 137 dX8_solves_130 (by decide) (by omega) (by omega) (fun c_130 => by omega) (fun c_130 => ?_)
          refine r_iconst (v := 1) dX8_solves_133 (by decide) ?_
          refine r_goto 138 dX8_solves_134 (by decide) ?_
          refine r_istore_1 dX8_solves_138 ?_
          refine r_aload_0 dX8_solves_139 ?_
          refine r_dupr dX8_solves_140 ?_
          refine r_getI dX8_solves_141 fl_X8_263 rfl ?_
          rw [b28]
          refine r_iload_1 dX8_solves_144 ?_
          refine r_if_eq 164 dX8_solves_145 (by decide) (fun c_145 => by exact absurd c_145 (by decide)) (fun c_145 => ?_)
          refine r_iconst (v := 1) dX8_solves_148 (by decide) ?_
          refine r_iload_3 dX8_solves_149 ?_
          refine r_iconst (v := (-1)) dX8_solves_150 (by decide) ?_
          refine r_icmp_eq 158 dX8_solves_151 (by decide) (fun c_151 => by exact absurd c_151 (nI_ne_m1 (by omega))) (fun c_151 => ?_)
          refine r_iload_3 dX8_solves_154 ?_
          refine r_goto 160 dX8_solves_155 (by decide) ?_
          refine r_ishl dX8_solves_160 ?_
          refine r_goto 165 dX8_solves_161 (by decide) ?_
          refine r_ixor dX8_solves_165 ?_
          rw [show sh ^^^ ((1 : Int32) <<< (oI (some e) &&& 31)) = flipS sh e from rfl]
          refine r_putI dX8_solves_166 fl_X8_263 rfl rfl rfl ?_
          refine r_goto 17 dX8_solves_169 (by decide) ?_
          refine RT.sub (lv' := [some (.ref 74), some (.int 1), none, none, none]) (by simp [lsub]) ?_
          exact go e ht hm0
    refine r_iload_1 dX8_solves_17 ?_
    refine r_if_eq 172 dX8_solves_18 (by decide) (fun c_18 => by exact absurd c_18 (by decide)) (fun c_18 => ?_)
    refine r_aload_0 dX8_solves_21 ?_
    refine r_dupr dX8_solves_22 ?_
    refine r_getI dX8_solves_23 fl_X8_363 rfl ?_
    rw [hr]
    refine r_iconst (v := 1) dX8_solves_26 (by decide) ?_
    refine r_iadd dX8_solves_27 ?_
    rw [nI_1]
    refine r_putI dX8_solves_28 fl_X8_363 rfl rfl rfl ?_
    refine r_aload_0 dX8_solves_31 ?_
    refine r_cWQ0 mX8_laysNet dX8_solves_32 ml_X8_370 mo_X8_laysNet rfl (q_laysNet ok sh (nc.f 39 _ z39) ((pI_ne 74 28 (Or.inr (by decide))).trans hs)) (by decide) (fun h1 p1 => ?_)
    obtain ⟨tc1, rc1, fl1, f1⟩ := p1
    have nc1 := (nc.f 39 (nI (r + 1)) z39).fm (f1.wk (fun _ q => q) lnF_s)
    refine r_aload_0 dX8_solves_35 ?_
    refine r_iconst (v := nI 0) dX8_solves_36 (by decide) ?_
    refine r_putI dX8_solves_37 fl_X8_373 rfl rfl rfl ?_
    refine r_iconst (v := 1) dX8_solves_40 (by decide) ?_
    refine r_istore_2 dX8_solves_41 ?_
    refine msw ok sh (pI h1 74 40 (nI 0)) 60 0 _ (by omega) (nc1.f 40 _ z40) (tc1.f 40 _ (by decide) (by decide)) (rc1.f 40 _ (by decide)) fl1 pI_eq FM.rf (fun h2 nc2 tc2 rc2 fl2 h40 f2 => ?_)
    have hs2 : h2.1 74 28 = sh := ((f2.1 28 (fun q => absurd (show 28 = 40 from q) (by decide))).trans (pI_ne 74 28 (Or.inr (by decide)))).trans ((f1.1 28 (fun q => by unfold lnF at q; omega)).trans ((pI_ne 74 28 (Or.inr (by decide))).trans hs))
    have hr2 : h2.1 74 39 = nI (r + 1) := ((f2.1 39 (fun q => absurd (show 39 = 40 from q) (by decide))).trans (pI_ne 74 39 (Or.inr (by decide)))).trans ((f1.1 39 (fun q => by unfold lnF at q; omega)).trans pI_eq)
    refine r_aload_0 dX8_solves_73 ?_
    refine r_cWQ0 mX8_laysHeads dX8_solves_74 ml_X8_379 mo_X8_laysHeads rfl (q_laysHeads ok sh _ nc2 tc2 fl2) (by decide) (fun h3 p3 => ?_)
    obtain ⟨hd3, e3, f3⟩ := p3
    refine K h3 ⟨nc2.ext e3, by rw [e3]; exact hs2, by rw [e3]; exact hr2, by rw [e3]; exact h40, tc2.ex1 e3, rc2.ex1 e3, fun e he => by rw [(f3 87 (fun q => absurd (show 87 = 91 from q) (by decide))).2]; exact fl2 e he, hd3, ?_⟩
    have g1 := ((fr.pF z39).tr (f1.wk (fun _ q => q) lnF_s)).pF (x := nI 0) z40
    exact (g1.tr (f2.wk swS_s swF_s)).tr ⟨fun k _ => by rw [e3], fun y _ hy => f3 y (fun q => hy (by rw [show y = 91 from q]; exact ⟨by decide, by decide⟩)), fun _ => (f3 74 (show ¬ (74 = 91) by decide)).2⟩

set_option maxRecDepth 100000 in
set_option maxHeartbeats 4000000 in
theorem q_solves {t : NT} (ok : okT t) {h : PH} (nc : NetM h t) : Con mX8_solves 6 [.ref 74] h (fun a h' => a = none ∧ (SolM h' t (solveS (snOf t)) ∧ FM slS slF h h')) := by
  refine Con.mk (by decide) ?_
  show RT _ _ 0 [some (.ref 74), none, none, none, none] [] _ _
  have z39 : slF 39 := by unfold slF; omega
  have z41 : slF 41 := by unfold slF; omega
  have z28 : slF 28 := by unfold slF; omega
  refine r_aload_0 dX8_solves_0 ?_
  refine r_iconst (v := 0) dX8_solves_1 (by decide) ?_
  refine r_putI dX8_solves_2 fl_X8_263 rfl rfl rfl ?_
  refine r_aload_0 dX8_solves_5 ?_
  refine r_iconst (v := nI 0) dX8_solves_6 (by decide) ?_
  refine r_putI dX8_solves_7 fl_X8_363 rfl rfl rfl ?_
  refine r_aload_0 dX8_solves_10 ?_
  refine r_iconst (v := 0) dX8_solves_11 (by decide) ?_
  refine r_putZ dX8_solves_12 fl_X8_366 rfl rfl rfl (by first | exact Or.inl rfl | exact Or.inr rfl) ?_
  refine r_iconst (v := 1) dX8_solves_15 (by decide) ?_
  refine r_istore_1 dX8_solves_16 ?_
  unfold solveS
  refine msolve ok h 20 0 0 _ (by omega) (by omega) (((nc.f 28 _ z28).f 39 _ z39).f 41 _ z41) ?_ ?_ (((FM.rf.pF z28).pF z39).pF z41)
  · rw [pI_ne 74 28 (Or.inr (by decide)), pI_ne 74 28 (Or.inr (by decide))]; exact pI_eq
  · rw [pI_ne 74 39 (Or.inr (by decide))]; exact pI_eq

set_option maxRecDepth 100000 in
set_option maxHeartbeats 4000000 in
theorem mearly {t : NT} (ok : okT t) {h0 : PH} (nc : NetM h0 t) (rc : RingsM h0 (rgS (snOf t) 0)) {lim : Nat} (hl : lim ≤ 60) : ∀ (m c : Nat) (h : PH), c + m = lim → SWM h0 h (itS (snOf t) 0 c) → RT mX8_laysEarly 6 13 [some (.ref 74), some (.int (nI lim)), some (.int 1), some (.int (nI c))] [] h (fun a h' => a = none ∧ (SWM h0 h' (swl (gS (snOf t) 0) m c (itS (snOf t) 0 c)).1)) := by
  intro m
  induction m with
  | zero =>
    intro c h hc sw
    refine r_iload_3 dX8_laysEarly_13 ?_
    refine r_iload_1 dX8_laysEarly_14 ?_
    refine r_icmpN_ge 33 dX8_laysEarly_15 (by decide) (by omega) (by omega) (fun c_15 => ?_) (fun c_15 => by omega)
    refine r_vret dX8_laysEarly_33 rfl ?_
    exact ⟨rfl, sw⟩
  | succ m ih =>
    intro c h hc sw
    have fb := (ok.ok.it 0 (k := c) (by omega)).1
    simp only [swl, it_s]
    cases hg : (gS (snOf t) 0 (itS (snOf t) 0 c)).2
    · refine r_iload_3 dX8_laysEarly_13 ?_
      refine r_iload_1 dX8_laysEarly_14 ?_
      refine r_icmpN_ge 33 dX8_laysEarly_15 (by decide) (by omega) (by omega) (fun c_15 => by omega) (fun c_15 => ?_)
      refine r_iload_2 dX8_laysEarly_18 ?_
      refine r_if_eq 33 dX8_laysEarly_19 (by decide) (fun c_19 => by exact absurd c_19 (by decide)) (fun c_19 => ?_)
      refine r_aload_0 dX8_laysEarly_22 ?_
      refine r_cVQ0 mX8_sweep dX8_laysEarly_23 ml_X8_376 mo_X8_sweep rfl (q_sweep ok 0 (nc.ext sw.2.1) (rc.ex1 sw.2.1) fb sw.1) (by decide) (fun h1 sw1 => ?_)
      rw [hg]
      have sw2 : SWM h0 h1 (itS (snOf t) 0 (c + 1)) := by rw [← it_s]; exact ⟨sw1.1, sw1.2.1.trans sw.2.1, sw.2.2.tr sw1.2.2⟩
      refine r_istore_2 dX8_laysEarly_26 ?_
      refine r_iincN_3 dX8_laysEarly_27 ?_
      refine r_goto 13 dX8_laysEarly_30 (by decide) ?_
      refine r_iload_3 dX8_laysEarly_13 ?_
      refine r_iload_1 dX8_laysEarly_14 ?_
      refine r_icmpN_ge 33 dX8_laysEarly_15 (by decide) (by omega) (by omega) (fun c_15 => ?_) (fun c_15 => ?_)
      · refine r_vret dX8_laysEarly_33 rfl ?_
        refine ⟨rfl, ?_⟩
        simp only [Bool.false_eq_true, if_false]
        exact sw2
      · refine r_iload_2 dX8_laysEarly_18 ?_
        refine r_if_eq 33 dX8_laysEarly_19 (by decide) (fun c_19 => ?_) (fun c_19 => by exact absurd rfl c_19)
        refine r_vret dX8_laysEarly_33 rfl ?_
        refine ⟨rfl, ?_⟩
        simp only [Bool.false_eq_true, if_false]
        exact sw2
    · refine r_iload_3 dX8_laysEarly_13 ?_
      refine r_iload_1 dX8_laysEarly_14 ?_
      refine r_icmpN_ge 33 dX8_laysEarly_15 (by decide) (by omega) (by omega) (fun c_15 => by omega) (fun c_15 => ?_)
      refine r_iload_2 dX8_laysEarly_18 ?_
      refine r_if_eq 33 dX8_laysEarly_19 (by decide) (fun c_19 => by exact absurd c_19 (by decide)) (fun c_19 => ?_)
      refine r_aload_0 dX8_laysEarly_22 ?_
      refine r_cVQ0 mX8_sweep dX8_laysEarly_23 ml_X8_376 mo_X8_sweep rfl (q_sweep ok 0 (nc.ext sw.2.1) (rc.ex1 sw.2.1) fb sw.1) (by decide) (fun h1 sw1 => ?_)
      rw [hg]
      have sw2 : SWM h0 h1 (itS (snOf t) 0 (c + 1)) := by rw [← it_s]; exact ⟨sw1.1, sw1.2.1.trans sw.2.1, sw.2.2.tr sw1.2.2⟩
      refine r_istore_2 dX8_laysEarly_26 ?_
      refine r_iincN_3 dX8_laysEarly_27 ?_
      refine r_goto 13 dX8_laysEarly_30 (by decide) ?_
      simp only [if_true, show bI true = 1 from rfl]
      exact ih (c + 1) h1 (by omega) sw2

set_option maxRecDepth 100000 in
set_option maxHeartbeats 4000000 in
theorem q_laysEarly {t : NT} (ok : okT t) {h : PH} (nc : NetM h t) {lim : Nat} (hl : lim ≤ 60) : Con mX8_laysEarly 6 [.ref 74, .int (nI lim)] h (fun a h' => a = none ∧ (NetM h' t ∧ h'.1 74 28 = 0 ∧ TreeM h' (trS (snOf t) 0) ∧ RingsM h' (rgS (snOf t) 0) ∧ (∀ e, e < 14 → h'.2 87 e = (flS (snOf t) 0 lim).1 e) ∧ FM slS slF h h')) := by
  refine Con.mk (by decide) ?_
  show RT _ _ 0 [some (.ref 74), some (.int (nI lim)), none, none] [] _ _
  have z28 : slF 28 := by unfold slF; omega
  refine r_aload_0 dX8_laysEarly_0 ?_
  refine r_iconst (v := 0) dX8_laysEarly_1 (by decide) ?_
  refine r_putI dX8_laysEarly_2 fl_X8_263 rfl rfl rfl ?_
  refine r_aload_0 dX8_laysEarly_5 ?_
  refine r_cWQ0 mX8_laysNet dX8_laysEarly_6 ml_X8_370 mo_X8_laysNet rfl (q_laysNet ok 0 (nc.f 28 _ z28) pI_eq) (by decide) (fun h1 p1 => ?_)
  obtain ⟨tc1, rc1, fl1, f1⟩ := p1
  have nc1 := (nc.f 28 0 z28).fm (f1.wk (fun _ q => q) lnF_s)
  refine r_iconst (v := 1) dX8_laysEarly_9 (by decide) ?_
  refine r_istore_2 dX8_laysEarly_10 ?_
  refine r_iconst (v := nI 0) dX8_laysEarly_11 (by decide) ?_
  refine r_istore_3 dX8_laysEarly_12 ?_
  refine (mearly ok nc1 rc1 hl lim 0 h1 (by omega) ⟨fl1, rfl, Fr.rf⟩).imp (fun a b q => ⟨q.1, nc1.ext q.2.2.1, ?_, tc1.ex1 q.2.2.1, rc1.ex1 q.2.2.1, q.2.1, ?_⟩)
  · rw [q.2.2.1, f1.1 28 (fun q => by unfold lnF at q; omega)]; exact pI_eq
  · exact ((FM.rf.pF z28).tr (f1.wk (fun _ q => q) lnF_s)).tr ((q.2.fm (F := slF)).wk swS_s (fun _ q => q))

