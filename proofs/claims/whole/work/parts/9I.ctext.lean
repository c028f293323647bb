/-! ===== the class reads a text ===== -/
set_option maxRecDepth 100000 in
set_option maxHeartbeats 4000000 in
theorem conn_in {h : PH} {t : NT} (nc : NetC h 3 t) (ti : TI t) {j : Nat} {Q : Option Value → PH → Prop} : ∀ (m e : Nat) (a : Int32), e + m = NT.E t → RT mX2_isConnected 1 59 [some (.ref 3), some (.int (rc1 t m e a)), some (.int (nI j)), none, none] [] h Q → RT mX2_isConnected 1 14 [some (.ref 3), some (.int a), some (.int (nI j)), some (.int (nI e)), none] [] h Q := by
  have hE := ti.2.1
  have hJ := ti.1
  have k1 : h.1 3 1 = nI (NT.E t) := nc.2.1
  intro m
  induction m with
  | zero =>
    intro e a he K
    refine r_iload_3 dX2_isConnected_14 ?_
    refine r_aload_0 dX2_isConnected_15 ?_
    refine r_getI dX2_isConnected_16 fl_X2_44 rfl ?_
    rw [k1]
    refine r_icmpN_ge 59 dX2_isConnected_19 (by decide) (by omega) (by omega) (fun c_19 => ?_) (fun c_19 => by omega)
    refine RT.sub (lv' := [some (.ref 3), some (.int a), some (.int (nI j)), none, none]) (by simp [lsub]) ?_
    exact K
  | succ m ih =>
    intro e a he K
    obtain ⟨m1, m2, -⟩ := nc.2.2.2.2.2 e (by omega)
    obtain ⟨b1, b2, -⟩ := ti.2.2.1 e (by omega)
    have m1' : h.1 7 e = nI (NT.fi t e) := m1
    have m2' : h.1 8 e = nI (NT.se t e) := m2
    have K' : RT mX2_isConnected 1 59 [some (.ref 3), some (.int (rc1 t m (e + 1) (if bt a (NT.fi t e) = true ∨ bt a (NT.se t e) = true then a ||| (((1 : Int32) <<< (nI (NT.fi t e) &&& 31)) ||| ((1 : Int32) <<< (nI (NT.se t e) &&& 31))) else a))), some (.int (nI j)), none, none] [] h Q := K
    by_cases hq : bt a (NT.fi t e) = true ∨ bt a (NT.se t e) = true
    · rw [if_pos hq] at K'
      have nz : ¬ a &&& (((1 : Int32) <<< (nI (NT.fi t e) &&& 31)) ||| ((1 : Int32) <<< (nI (NT.se t e) &&& 31))) = 0 := fun z => by
        have := (and_two (by omega) (by omega)).mp z
        rcases hq with q | q
        · rw [this.1] at q; cases q
        · rw [this.2] at q; cases q
      refine r_iload_3 dX2_isConnected_14 ?_
      refine r_aload_0 dX2_isConnected_15 ?_
      refine r_getI dX2_isConnected_16 fl_X2_44 rfl ?_
      rw [k1]
      refine r_icmpN_ge 59 dX2_isConnected_19 (by decide) (by omega) (by omega) (fun c_19 => by omega) (fun c_19 => ?_)
      refine r_iconst (v := 1) dX2_isConnected_22 (by decide) ?_
      refine r_aload_0 dX2_isConnected_23 ?_
      refine r_getR (a := 7) dX2_isConnected_24 fl_X2_22 rfl rfl ?_
      refine r_iload_3 dX2_isConnected_27 ?_
      refine r_ialdN dX2_isConnected_28 rfl (by omega) ?_
      rw [m1']
      refine r_ishl dX2_isConnected_29 ?_
      refine r_iconst (v := 1) dX2_isConnected_30 (by decide) ?_
      refine r_aload_0 dX2_isConnected_31 ?_
      refine r_getR (a := 8) dX2_isConnected_32 fl_X2_25 rfl rfl ?_
      refine r_iload_3 dX2_isConnected_35 ?_
      refine r_ialdN dX2_isConnected_36 rfl (by omega) ?_
      rw [m2']
      refine r_ishl dX2_isConnected_37 ?_
      refine r_ior dX2_isConnected_38 ?_
      refine r_istore_4 dX2_isConnected_39 ?_
      refine r_iload_1 dX2_isConnected_41 ?_
      refine r_iload_4 dX2_isConnected_42 ?_
      refine r_iand dX2_isConnected_44 ?_
      refine r_if_eq 53 dX2_isConnected_45 (by decide) (fun c_45 => by exact absurd c_45 nz) (fun c_45 => ?_)
      refine r_iload_1 dX2_isConnected_48 ?_
      refine r_iload_4 dX2_isConnected_49 ?_
      refine r_ior dX2_isConnected_51 ?_
      refine r_istore_1 dX2_isConnected_52 ?_
      refine r_iincN_3 dX2_isConnected_53 ?_
      refine r_goto 14 dX2_isConnected_56 (by decide) ?_
      refine RT.sub (lv' := [some (.ref 3), some (.int (a ||| (((1 : Int32) <<< (nI (NT.fi t e) &&& 31)) ||| ((1 : Int32) <<< (nI (NT.se t e) &&& 31))))), some (.int (nI j)), some (.int (nI (e + 1))), none]) (by simp [lsub]) ?_
      exact ih (e + 1) _ (by omega) K'
    · rw [if_neg hq] at K'
      have nz : a &&& (((1 : Int32) <<< (nI (NT.fi t e) &&& 31)) ||| ((1 : Int32) <<< (nI (NT.se t e) &&& 31))) = 0 := (and_two (by omega) (by omega)).mpr ⟨Bool.eq_false_iff.mpr (fun q => hq (Or.inl q)), Bool.eq_false_iff.mpr (fun q => hq (Or.inr q))⟩
      refine r_iload_3 dX2_isConnected_14 ?_
      refine r_aload_0 dX2_isConnected_15 ?_
      refine r_getI dX2_isConnected_16 fl_X2_44 rfl ?_
      rw [k1]
      refine r_icmpN_ge 59 dX2_isConnected_19 (by decide) (by omega) (by omega) (fun c_19 => by omega) (fun c_19 => ?_)
      refine r_iconst (v := 1) dX2_isConnected_22 (by decide) ?_
      refine r_aload_0 dX2_isConnected_23 ?_
      refine r_getR (a := 7) dX2_isConnected_24 fl_X2_22 rfl rfl ?_
      refine r_iload_3 dX2_isConnected_27 ?_
      refine r_ialdN dX2_isConnected_28 rfl (by omega) ?_
      rw [m1']
      refine r_ishl dX2_isConnected_29 ?_
      refine r_iconst (v := 1) dX2_isConnected_30 (by decide) ?_
      refine r_aload_0 dX2_isConnected_31 ?_
      refine r_getR (a := 8) dX2_isConnected_32 fl_X2_25 rfl rfl ?_
      refine r_iload_3 dX2_isConnected_35 ?_
      refine r_ialdN dX2_isConnected_36 rfl (by omega) ?_
      rw [m2']
      refine r_ishl dX2_isConnected_37 ?_
      refine r_ior dX2_isConnected_38 ?_
      refine r_istore_4 dX2_isConnected_39 ?_
      refine r_iload_1 dX2_isConnected_41 ?_
      refine r_iload_4 dX2_isConnected_42 ?_
      refine r_iand dX2_isConnected_44 ?_
      refine r_if_eq 53 dX2_isConnected_45 (by decide) (fun c_45 => ?_) (fun c_45 => by exact absurd nz c_45)
      refine r_iincN_3 dX2_isConnected_53 ?_
      refine r_goto 14 dX2_isConnected_56 (by decide) ?_
      refine RT.sub (lv' := [some (.ref 3), some (.int a), some (.int (nI j)), some (.int (nI (e + 1))), none]) (by simp [lsub]) ?_
      exact ih (e + 1) _ (by omega) K'
set_option maxRecDepth 100000 in
set_option maxHeartbeats 4000000 in
theorem conn_out {h : PH} {t : NT} (nc : NetC h 3 t) (ti : TI t) : ∀ (m j : Nat) (a : Int32), j + m = NT.J t → RT mX2_isConnected 1 4 [some (.ref 3), some (.int a), some (.int (nI j)), none, none] [] h (fun r h' => r = some (.int (b2i (rc2 t m a = ((1 : Int32) <<< (nI (NT.J t) &&& 31)) - 1))) ∧ h' = h) := by
  have hJ := ti.1
  have k0 : h.1 3 0 = nI (NT.J t) := nc.1
  intro m
  induction m with
  | zero =>
    intro j a hj
    by_cases q : a = ((1 : Int32) <<< (nI (NT.J t) &&& 31)) - 1
    · rw [b2i_t (show rc2 t 0 a = ((1 : Int32) <<< (nI (NT.J t) &&& 31)) - 1 from q)]
      refine r_iload_2 dX2_isConnected_4 ?_
      refine r_aload_0 dX2_isConnected_5 ?_
      refine r_getI dX2_isConnected_6 fl_X2_40 rfl ?_
      rw [k0]
      refine r_icmpN_ge 65 dX2_isConnected_9 (by decide) (by omega) (by omega) (fun c_9 => ?_) (fun c_9 => by omega)
      refine r_iload_1 dX2_isConnected_65 ?_
      refine r_iconst (v := 1) dX2_isConnected_66 (by decide) ?_
      refine r_aload_0 dX2_isConnected_67 ?_
      refine r_getI dX2_isConnected_68 fl_X2_40 rfl ?_
      rw [k0]
      refine r_ishl dX2_isConnected_71 ?_
      refine r_iconst (v := 1) dX2_isConnected_72 (by decide) ?_
      refine r_isub dX2_isConnected_73 ?_
      refine r_icmp_ne 81 dX2_isConnected_74 (by decide) (fun c_74 => by exact absurd q c_74) (fun c_74 => ?_)
      refine r_iconst (v := 1) dX2_isConnected_77 (by decide) ?_
      refine r_goto 82 dX2_isConnected_78 (by decide) ?_
      refine r_zret dX2_isConnected_82 rfl rfl ?_
      exact ⟨rfl, rfl⟩
    · rw [b2i_f (show ¬ rc2 t 0 a = ((1 : Int32) <<< (nI (NT.J t) &&& 31)) - 1 from q)]
      refine r_iload_2 dX2_isConnected_4 ?_
      refine r_aload_0 dX2_isConnected_5 ?_
      refine r_getI dX2_isConnected_6 fl_X2_40 rfl ?_
      rw [k0]
      refine r_icmpN_ge 65 dX2_isConnected_9 (by decide) (by omega) (by omega) (fun c_9 => ?_) (fun c_9 => by omega)
      refine r_iload_1 dX2_isConnected_65 ?_
      refine r_iconst (v := 1) dX2_isConnected_66 (by decide) ?_
      refine r_aload_0 dX2_isConnected_67 ?_
      refine r_getI dX2_isConnected_68 fl_X2_40 rfl ?_
      rw [k0]
      refine r_ishl dX2_isConnected_71 ?_
      refine r_iconst (v := 1) dX2_isConnected_72 (by decide) ?_
      refine r_isub dX2_isConnected_73 ?_
      refine r_icmp_ne 81 dX2_isConnected_74 (by decide) (fun c_74 => ?_) (fun c_74 => by exact absurd c_74 q)
      refine r_iconst (v := 0) dX2_isConnected_81 (by decide) ?_
      refine r_zret dX2_isConnected_82 rfl rfl ?_
      exact ⟨rfl, rfl⟩
  | succ m ih =>
    intro j a hj
    refine r_iload_2 dX2_isConnected_4 ?_
    refine r_aload_0 dX2_isConnected_5 ?_
    refine r_getI dX2_isConnected_6 fl_X2_40 rfl ?_
    rw [k0]
    refine r_icmpN_ge 65 dX2_isConnected_9 (by decide) (by omega) (by omega) (fun c_9 => by omega) (fun c_9 => ?_)
    refine r_iconst (v := nI 0) dX2_isConnected_12 (by decide) ?_
    refine r_istore_3 dX2_isConnected_13 ?_
    refine conn_in nc ti (NT.E t) 0 a (by omega) ?_
    refine r_iincN_2 dX2_isConnected_59 ?_
    refine r_goto 4 dX2_isConnected_62 (by decide) ?_
    exact ih (j + 1) _ (by omega)
set_option maxRecDepth 100000 in
set_option maxHeartbeats 4000000 in
theorem k_conn {h : PH} {t : NT} (nc : NetC h 3 t) (ti : TI t) : ConF mX2_isConnected 1 [.ref 3] h (some (.int (b2i (cnT t)))) h := by
  refine Con.mk (by decide) ?_
  show RT _ _ 0 [some (.ref 3), none, none, none, none] [] _ _
  refine r_iconst (v := 1) dX2_isConnected_0 (by decide) ?_
  refine r_istore_1 dX2_isConnected_1 ?_
  refine r_iconst (v := nI 0) dX2_isConnected_2 (by decide) ?_
  refine r_istore_2 dX2_isConnected_3 ?_
  exact conn_out nc ti (NT.J t) 0 1 (by omega)

set_option maxRecDepth 100000 in
set_option maxHeartbeats 4000000 in
theorem k_rend {h : PH} {n : Nat} {B : Nat → Nat} {k : TK} {t : NT} {nm : NMS} (c : CRd h n B k t nm) (g : TGd n B k) (ti : TI t) : Con mX3_readEnd 2 [.ref 2] h (fun a h' => a = none ∧ COut h h' n B (spEnd (0, k, t, nm))) := by
  have k0 : h.1 3 0 = nI (NT.J t) := c.2.2.1.1
  have m1 := c.2.1.1
  have k4 := g.1.2.2.2
  have hJ := ti.1
  refine Con.mk (by decide) ?_
  show RT _ _ 0 [some (.ref 2)] [] _ _
  by_cases h0 : k.1 = 0
  · by_cases h2 : 2 ≤ NT.J t
    · by_cases h3 : cnT t
      · have e : spEnd (0, k, t, nm) = (0, k, t, nm) := by unfold spEnd; rw [if_pos rfl, if_pos h0, if_pos ⟨h2, h3⟩]
        rw [e]
        refine r_aload_0 dX3_readEnd_0 ?_
        refine r_getI dX3_readEnd_1 fl_X3_42 rfl ?_
        rw [m1]
        refine r_if_eq 16 dX3_readEnd_4 (by decide) (fun c_4 => ?_) (fun c_4 => by exact absurd (by rw [h0]; rfl) c_4)
        refine r_aload_0 dX3_readEnd_16 ?_
        refine r_getR (a := 3) dX3_readEnd_17 fl_X3_12 rfl rfl ?_
        refine r_getI dX3_readEnd_20 fl_X3_55 rfl ?_
        rw [k0]
        refine r_iconst (v := nI 2) dX3_readEnd_23 (by decide) ?_
        refine r_icmpN_lt 37 dX3_readEnd_24 (by decide) (by omega) (by omega) (fun c_24 => by omega) (fun c_24 => ?_)
        refine r_aload_0 dX3_readEnd_27 ?_
        refine r_getR (a := 3) dX3_readEnd_28 fl_X3_12 rfl rfl ?_
        refine r_cV0 mX2_isConnected dX3_readEnd_31 ml_X3_58 mo_X2_isConnected rfl (k_conn c.2.2.1 ti) (by decide) ?_
        rw [b2i_t h3]
        refine r_if_ne 43 dX3_readEnd_34 (by decide) (fun c_34 => ?_) (fun c_34 => by exact absurd c_34 (by decide))
        refine r_vret dX3_readEnd_43 rfl ?_
        exact ⟨rfl, fun _ => c, fun q => absurd rfl q, Fr.rf⟩
      · have e : spEnd (0, k, t, nm) = (5, k, t, nm) := by unfold spEnd; rw [if_pos rfl, if_pos h0, if_neg (fun q => h3 q.2)]
        rw [e]
        refine r_aload_0 dX3_readEnd_0 ?_
        refine r_getI dX3_readEnd_1 fl_X3_42 rfl ?_
        rw [m1]
        refine r_if_eq 16 dX3_readEnd_4 (by decide) (fun c_4 => ?_) (fun c_4 => by exact absurd (by rw [h0]; rfl) c_4)
        refine r_aload_0 dX3_readEnd_16 ?_
        refine r_getR (a := 3) dX3_readEnd_17 fl_X3_12 rfl rfl ?_
        refine r_getI dX3_readEnd_20 fl_X3_55 rfl ?_
        rw [k0]
        refine r_iconst (v := nI 2) dX3_readEnd_23 (by decide) ?_
        refine r_icmpN_lt 37 dX3_readEnd_24 (by decide) (by omega) (by omega) (fun c_24 => by omega) (fun c_24 => ?_)
        refine r_aload_0 dX3_readEnd_27 ?_
        refine r_getR (a := 3) dX3_readEnd_28 fl_X3_12 rfl rfl ?_
        refine r_cV0 mX2_isConnected dX3_readEnd_31 ml_X3_58 mo_X2_isConnected rfl (k_conn c.2.2.1 ti) (by decide) ?_
        rw [b2i_f h3]
        refine r_if_ne 43 dX3_readEnd_34 (by decide) (fun c_34 => by exact absurd rfl c_34) (fun c_34 => ?_)
        refine r_aload_0 dX3_readEnd_37 ?_
        refine r_iconst (v := 5) dX3_readEnd_38 (by decide) ?_
        refine r_cV1 mX3_blame dX3_readEnd_39 ml_X3_51 mo_X3_blame rfl (k_blame h 5) (by decide) ?_
        refine r_popi dX3_readEnd_42 ?_
        refine r_vret dX3_readEnd_43 rfl ?_
        exact ⟨rfl, fun q => absurd q (show ¬ ((5 : Int32) = 0) by decide), fun _ => c.bad _, fc_b Fr.rf⟩
    · have e : spEnd (0, k, t, nm) = (5, k, t, nm) := by unfold spEnd; rw [if_pos rfl, if_pos h0, if_neg (fun q => h2 q.1)]
      rw [e]
      refine r_aload_0 dX3_readEnd_0 ?_
      refine r_getI dX3_readEnd_1 fl_X3_42 rfl ?_
      rw [m1]
      refine r_if_eq 16 dX3_readEnd_4 (by decide) (fun c_4 => ?_) (fun c_4 => by exact absurd (by rw [h0]; rfl) c_4)
      refine r_aload_0 dX3_readEnd_16 ?_
      refine r_getR (a := 3) dX3_readEnd_17 fl_X3_12 rfl rfl ?_
      refine r_getI dX3_readEnd_20 fl_X3_55 rfl ?_
      rw [k0]
      refine r_iconst (v := nI 2) dX3_readEnd_23 (by decide) ?_
      refine r_icmpN_lt 37 dX3_readEnd_24 (by decide) (by omega) (by omega) (fun c_24 => ?_) (fun c_24 => by omega)
      refine r_aload_0 dX3_readEnd_37 ?_
      refine r_iconst (v := 5) dX3_readEnd_38 (by decide) ?_
      refine r_cV1 mX3_blame dX3_readEnd_39 ml_X3_51 mo_X3_blame rfl (k_blame h 5) (by decide) ?_
      refine r_popi dX3_readEnd_42 ?_
      refine r_vret dX3_readEnd_43 rfl ?_
      exact ⟨rfl, fun q => absurd q (show ¬ ((5 : Int32) = 0) by decide), fun _ => c.bad _, fc_b Fr.rf⟩
  · have e : spEnd (0, k, t, nm) = (1, k, t, nm) := by unfold spEnd; rw [if_pos rfl, if_neg h0]
    rw [e]
    refine r_aload_0 dX3_readEnd_0 ?_
    refine r_getI dX3_readEnd_1 fl_X3_42 rfl ?_
    rw [m1]
    refine r_if_eq 16 dX3_readEnd_4 (by decide) (fun c_4 => by exact absurd (nI_jn (b := 0) (by omega) (by omega) c_4) h0) (fun c_4 => ?_)
    refine r_aload_0 dX3_readEnd_7 ?_
    refine r_iconst (v := 1) dX3_readEnd_8 (by decide) ?_
    refine r_cV1 mX3_blame dX3_readEnd_9 ml_X3_51 mo_X3_blame rfl (k_blame h 1) (by decide) ?_
    refine r_popi dX3_readEnd_12 ?_
    refine r_goto 43 dX3_readEnd_13 (by decide) ?_
    refine r_vret dX3_readEnd_43 rfl ?_
    exact ⟨rfl, fun q => absurd q (show ¬ ((1 : Int32) = 0) by decide), fun _ => c.bad _, fc_b Fr.rf⟩

set_option maxRecDepth 100000 in
set_option maxHeartbeats 4000000 in
theorem rtext_loop {n : Nat} {B : Nat → Nat} (ok : OKB n B) (h0 : PH) {Q : Option Value → PH → Prop} : ∀ (m li : Nat) (r : RS) (h : PH), li + m = 600 → COut h0 h n B r → (r.1 = 0 → GR n B r ∧ 0 < NT.J r.2.2.1) → (∀ h', COut h0 h' n B (spLines B n m r) → ((spLines B n m r).1 = 0 → GR n B (spLines B n m r) ∧ 0 < NT.J (spLines B n m r).2.2.1) → RT mX3_readText 7 74 [some (.ref 2), none, none, some (.int (b2i ((spLines B n m r).1 = 0))), none] [] h' Q) → RT mX3_readText 7 39 [some (.ref 2), none, none, some (.int (b2i ((r).1 = 0))), some (.int (nI li))] [] h Q := by
  intro m
  induction m with
  | zero =>
    intro li r h hl co gr K
    refine r_iload_4 dX3_readText_39 ?_
    refine r_sipush (v := nI 600) dX3_readText_41 (by decide) ?_
    refine r_icmpN_ge 74 dX3_readText_44 (by decide) (by omega) (by omega) (fun c_44 => ?_) (fun c_44 => by omega)
    refine RT.sub (lv' := [some (.ref 2), none, none, some (.int (b2i ((r).1 = 0))), none]) (by simp [lsub]) ?_
    exact K h co gr
  | succ m ih =>
    intro li r h hl co gr K
    unfold spLines at K
    by_cases h1 : r.1 = 0
    · obtain ⟨⟨ti, no, g⟩, hJ⟩ := gr h1
      have c := co.1 h1
      have m6 := c.2.1.1
      have k4 := g.1.2.2.2
      by_cases h3 : r.2.1.1 = 3
      · rw [if_pos ⟨h1, h3⟩] at K
        refine r_iload_4 dX3_readText_39 ?_
        refine r_sipush (v := nI 600) dX3_readText_41 (by decide) ?_
        refine r_icmpN_ge 74 dX3_readText_44 (by decide) (by omega) (by omega) (fun c_44 => by omega) (fun c_44 => ?_)
        refine r_iload_3 dX3_readText_47 ?_
        rw [b2i_t h1]
        refine r_if_eq 74 dX3_readText_48 (by decide) (fun c_48 => by exact absurd c_48 (by decide)) (fun c_48 => ?_)
        refine r_aload_0 dX3_readText_51 ?_
        refine r_getI dX3_readText_52 fl_X3_42 rfl ?_
        rw [m6]
        refine r_iconst (v := 3) dX3_readText_55 (by decide) ?_
        refine r_icmp_ne 74 dX3_readText_56 (by decide) (fun c_56 => by exact absurd (by rw [h3]; rfl) c_56) (fun c_56 => ?_)
        refine r_aload_0 dX3_readText_59 ?_
        refine r_cWQ0 mX3_readToken dX3_readText_60 ml_X3_35 mo_X3_readToken rfl (k_readToken ok c.1 g.1.2.1 c.2.1.2.2.1) (by decide) (fun h2 p2 => ?_)
        have c2 := c.tok p2
        have g2 := g.nx.1
        refine r_aload_0 dX3_readText_63 ?_
        refine r_cVQ0 mX3_readLine dX3_readText_64 ml_X3_45 mo_X3_readLine rfl (k_line ok c2 g2 ti no) (by decide) (fun h3 p3 => ?_)
        refine r_istore_3 dX3_readText_67 ?_
        refine r_iincN_4 dX3_readText_68 ?_
        refine r_goto 39 dX3_readText_71 (by decide) ?_
        exact ih (li + 1) _ h3 (by omega) ⟨p3.1, p3.2.1, (co.2.2.tr p2.2.fc).tr p3.2.2⟩ (fun q => ⟨(spLine_g g2 ti no hJ q).1, (spLine_g g2 ti no hJ q).2.2⟩) K
      · rw [if_neg (fun q => h3 q.2)] at K
        rw [b2i_t h1] at K
        refine r_iload_4 dX3_readText_39 ?_
        refine r_sipush (v := nI 600) dX3_readText_41 (by decide) ?_
        refine r_icmpN_ge 74 dX3_readText_44 (by decide) (by omega) (by omega) (fun c_44 => by omega) (fun c_44 => ?_)
        refine r_iload_3 dX3_readText_47 ?_
        rw [b2i_t h1]
        refine r_if_eq 74 dX3_readText_48 (by decide) (fun c_48 => by exact absurd c_48 (by decide)) (fun c_48 => ?_)
        refine r_aload_0 dX3_readText_51 ?_
        refine r_getI dX3_readText_52 fl_X3_42 rfl ?_
        rw [m6]
        refine r_iconst (v := 3) dX3_readText_55 (by decide) ?_
        refine r_icmp_ne 74 dX3_readText_56 (by decide) (fun c_56 => ?_) (fun c_56 => by exact absurd (nI_jn (b := 3) (by omega) (by omega) c_56) h3)
        refine RT.sub (lv' := [some (.ref 2), none, none, some (.int 1), none]) (by simp [lsub]) ?_
        exact K h co gr
    · rw [if_neg (fun q => h1 q.1)] at K
      rw [b2i_f h1] at K
      refine r_iload_4 dX3_readText_39 ?_
      refine r_sipush (v := nI 600) dX3_readText_41 (by decide) ?_
      refine r_icmpN_ge 74 dX3_readText_44 (by decide) (by omega) (by omega) (fun c_44 => by omega) (fun c_44 => ?_)
      refine r_iload_3 dX3_readText_47 ?_
      rw [b2i_f h1]
      refine r_if_eq 74 dX3_readText_48 (by decide) (fun c_48 => ?_) (fun c_48 => by exact absurd rfl c_48)
      refine RT.sub (lv' := [some (.ref 2), none, none, some (.int 0), none]) (by simp [lsub]) ?_
      exact K h co gr
set_option maxRecDepth 100000 in
set_option maxHeartbeats 4000000 in
theorem k_clearN (h : PH) : ConF mX2_clear 1 [.ref 3] h none (pI (pI (pI (pI h 3 0 0) 3 1 0) 3 2 0) 3 3 0) := by
  refine Con.mk (by decide) ?_
  show RT _ _ 0 [some (.ref 3)] [] _ _
  refine r_aload_0 dX2_clear_0 ?_
  refine r_iconst (v := 0) dX2_clear_1 (by decide) ?_
  refine r_putI dX2_clear_2 fl_X2_40 rfl rfl rfl ?_
  refine r_aload_0 dX2_clear_5 ?_
  refine r_iconst (v := 0) dX2_clear_6 (by decide) ?_
  refine r_putI dX2_clear_7 fl_X2_44 rfl rfl rfl ?_
  refine r_aload_0 dX2_clear_10 ?_
  refine r_iconst (v := 0) dX2_clear_11 (by decide) ?_
  refine r_putI dX2_clear_12 fl_X2_47 rfl rfl rfl ?_
  refine r_aload_0 dX2_clear_15 ?_
  refine r_iconst (v := 0) dX2_clear_16 (by decide) ?_
  refine r_putI dX2_clear_17 fl_X2_50 rfl rfl rfl ?_
  refine r_vret dX2_clear_20 rfl ?_
  exact ⟨rfl, rfl⟩

set_option maxRecDepth 100000 in
set_option maxHeartbeats 4000000 in
theorem k_rtext {n : Nat} {B : Nat → Nat} (ok : OKB n B) {h : PH} (hb : ∀ i, i < n → h.1 1 i = sB (B i)) : Con mX3_readText 7 [.ref 2, .ref 1, .int (nI n)] h (fun a h' => a = some (.int (spText B n).1) ∧ (((spText B n).1 = 0 → NetC h' 3 (spText B n).2.2.1 ∧ NamC h' 3 (spText B n).2.2.1 (spText B n).2.2.2 ∧ GR n B (spText B n) ∧ 2 ≤ NT.J (spText B n).2.2.1) ∧ ((spText B n).1 ≠ 0 → h'.1 2 5 = nI (spText B n).2.1.2.1) ∧ FCr h h')) := by
  have hn := ok.1
  refine Con.mk (by decide) ?_
  show RT _ _ 0 [some (.ref 2), some (.ref 1), some (.int (nI n)), none, none] [] _ _
  have f0 : FCr h (pI (pI (pI (pI (pI (pI (pI (pI h 2 1 (nI 1)) 2 2 (nI n)) 2 3 0) 2 4 0) 3 0 0) 3 1 0) 3 2 0) 3 3 0) := (((((((Fr.rf.pI ⟨by omega, by omega⟩).pI ⟨by omega, by omega⟩).pI ⟨by omega, by omega⟩).pI ⟨by omega, by omega⟩).pI ⟨by omega, by omega⟩).pI ⟨by omega, by omega⟩).pI ⟨by omega, by omega⟩).pI ⟨by omega, by omega⟩
  have z1 : (pI (pI (pI (pI (pI (pI (pI (pI h 2 1 (nI 1)) 2 2 (nI n)) 2 3 0) 2 4 0) 3 0 0) 3 1 0) 3 2 0) 3 3 0).1 2 1 = nI 1 := by simp (decide := true) only [pI_1, pI_2, pL_1, pL_2, pA_1, pA_2, pB_1, pB_2, Nat.add_left_cancel_iff, Nat.add_right_cancel_iff, Nat.add_eq_left, Nat.left_eq_add, true_and, false_and, and_false, and_true, and_self, if_true, if_false, ite_true, ite_false]
  have z2 : (pI (pI (pI (pI (pI (pI (pI (pI h 2 1 (nI 1)) 2 2 (nI n)) 2 3 0) 2 4 0) 3 0 0) 3 1 0) 3 2 0) 3 3 0).1 2 2 = nI n := by simp (decide := true) only [pI_1, pI_2, pL_1, pL_2, pA_1, pA_2, pB_1, pB_2, Nat.add_left_cancel_iff, Nat.add_right_cancel_iff, Nat.add_eq_left, Nat.left_eq_add, true_and, false_and, and_false, and_true, and_self, if_true, if_false, ite_true, ite_false]
  have z3 : (pI (pI (pI (pI (pI (pI (pI (pI h 2 1 (nI 1)) 2 2 (nI n)) 2 3 0) 2 4 0) 3 0 0) 3 1 0) 3 2 0) 3 3 0).1 2 3 = 0 := by simp (decide := true) only [pI_1, pI_2, pL_1, pL_2, pA_1, pA_2, pB_1, pB_2, Nat.add_left_cancel_iff, Nat.add_right_cancel_iff, Nat.add_eq_left, Nat.left_eq_add, true_and, false_and, and_false, and_true, and_self, if_true, if_false, ite_true, ite_false]
  have z4 : (pI (pI (pI (pI (pI (pI (pI (pI h 2 1 (nI 1)) 2 2 (nI n)) 2 3 0) 2 4 0) 3 0 0) 3 1 0) 3 2 0) 3 3 0).1 2 4 = 0 := by simp (decide := true) only [pI_1, pI_2, pL_1, pL_2, pA_1, pA_2, pB_1, pB_2, Nat.add_left_cancel_iff, Nat.add_right_cancel_iff, Nat.add_eq_left, Nat.left_eq_add, true_and, false_and, and_false, and_true, and_self, if_true, if_false, ite_true, ite_false]
  have y0 : (pI (pI (pI (pI (pI (pI (pI (pI h 2 1 (nI 1)) 2 2 (nI n)) 2 3 0) 2 4 0) 3 0 0) 3 1 0) 3 2 0) 3 3 0).1 3 0 = 0 := by simp (decide := true) only [pI_1, pI_2, pL_1, pL_2, pA_1, pA_2, pB_1, pB_2, Nat.add_left_cancel_iff, Nat.add_right_cancel_iff, Nat.add_eq_left, Nat.left_eq_add, true_and, false_and, and_false, and_true, and_self, if_true, if_false, ite_true, ite_false]
  have y1 : (pI (pI (pI (pI (pI (pI (pI (pI h 2 1 (nI 1)) 2 2 (nI n)) 2 3 0) 2 4 0) 3 0 0) 3 1 0) 3 2 0) 3 3 0).1 3 1 = 0 := by simp (decide := true) only [pI_1, pI_2, pL_1, pL_2, pA_1, pA_2, pB_1, pB_2, Nat.add_left_cancel_iff, Nat.add_right_cancel_iff, Nat.add_eq_left, Nat.left_eq_add, true_and, false_and, and_false, and_true, and_self, if_true, if_false, ite_true, ite_false]
  have y2 : (pI (pI (pI (pI (pI (pI (pI (pI h 2 1 (nI 1)) 2 2 (nI n)) 2 3 0) 2 4 0) 3 0 0) 3 1 0) 3 2 0) 3 3 0).1 3 2 = 0 := by simp (decide := true) only [pI_1, pI_2, pL_1, pL_2, pA_1, pA_2, pB_1, pB_2, Nat.add_left_cancel_iff, Nat.add_right_cancel_iff, Nat.add_eq_left, Nat.left_eq_add, true_and, false_and, and_false, and_true, and_self, if_true, if_false, ite_true, ite_false]
  have y3 : (pI (pI (pI (pI (pI (pI (pI (pI h 2 1 (nI 1)) 2 2 (nI n)) 2 3 0) 2 4 0) 3 0 0) 3 1 0) 3 2 0) 3 3 0).1 3 3 = 0 := pI_eq
  refine r_aload_0 dX3_readText_0 ?_
  refine r_aload_1 dX3_readText_1 ?_
  refine r_putD dX3_readText_2 fl_X3_18 rfl rfl rfl (by decide) ?_
  refine r_aload_0 dX3_readText_5 ?_
  refine r_iload_2 dX3_readText_6 ?_
  refine r_putI dX3_readText_7 fl_X3_22 rfl rfl rfl ?_
  refine r_aload_0 dX3_readText_10 ?_
  refine r_iconst (v := 0) dX3_readText_11 (by decide) ?_
  refine r_putI dX3_readText_12 fl_X3_26 rfl rfl rfl ?_
  refine r_aload_0 dX3_readText_15 ?_
  refine r_iconst (v := 0) dX3_readText_16 (by decide) ?_
  refine r_putI dX3_readText_17 fl_X3_29 rfl rfl rfl ?_
  refine r_aload_0 dX3_readText_20 ?_
  refine r_getR (a := 3) dX3_readText_21 fl_X3_12 rfl rfl ?_
  refine r_cW0 mX2_clear dX3_readText_24 ml_X3_32 mo_X2_clear rfl (k_clearN _) (by decide) ?_
  generalize (pI (pI (pI (pI (pI (pI (pI (pI h 2 1 (nI 1)) 2 2 (nI n)) 2 3 0) 2 4 0) 3 0 0) 3 1 0) 3 2 0) 3 3 0) = H at f0 z1 z2 z3 z4 y0 y1 y2 y3
  have cb0 : CB H n B := ⟨z1, z2, fun i hi => by rw [(f0 1 (by omega)).1]; exact hb i hi⟩
  have nc0 : NetC H 3 t00 := ⟨y0, y1, y2, y3, fun j hj => absurd hj (Nat.not_lt_zero _), fun e he => absurd he (Nat.not_lt_zero _)⟩
  have g0 : TGd n B (tkS B n 0) := ⟨(tkS_ok (by omega)).1, tkS_w⟩
  have ti0 : TI t00 := ⟨by decide, by decide, fun e he => absurd he (Nat.not_lt_zero _), fun j hj => absurd hj (Nat.not_lt_zero _), by decide +kernel, fun q => absurd q (by decide), rfl⟩
  have no0 : nmOK t00 nm0 := fun j hj => absurd hj (Nat.not_lt_zero _)
  refine r_aload_0 dX3_readText_27 ?_
  refine r_cWQ0 mX3_readToken dX3_readText_28 ml_X3_35 mo_X3_readToken rfl (k_readToken ok (q := 0) cb0 (by omega) z3) (by decide) (fun h2 p2 => ?_)
  have c2 : CRd h2 n B (tkS B n 0) t00 nm0 := ⟨cb0.f2 p2.2, p2.1, nc0.fr p2.2.2.2 (fun j hj q => by omega), fun j hj => absurd hj (Nat.not_lt_zero _), (p2.2.1 4 (by decide) (by decide) (by decide) (by decide)).trans z4⟩
  refine r_aload_0 dX3_readText_31 ?_
  refine r_cVQ0 mX3_readWell dX3_readText_32 ml_X3_38 mo_X3_readWell rfl (k_well ok c2 g0 ti0 no0 (by decide)) (by decide) (fun h3 p3 => ?_)
  refine r_istore_3 dX3_readText_35 ?_
  refine r_iconst (v := nI 0) dX3_readText_36 (by decide) ?_
  refine r_istore_4 dX3_readText_37 ?_
  refine RT.sub (lv' := [some (.ref 2), none, none, some (.int (b2i ((spWell B n (tkS B n 0) t00 nm0).1 = 0))), some (.int (nI 0))]) (by simp [lsub]) ?_
  refine rtext_loop ok h 600 0 _ h3 (by omega) ⟨p3.1, p3.2.1, (f0.tr p2.2.fc).tr p3.2.2⟩ (fun q => ⟨spWell_g g0 ti0 no0 rfl q, ?_⟩) (fun h4 co gr => ?_)
  · unfold spWell at q ⊢
    split
    · next w0 =>
      rw [if_pos w0] at q
      split
      · next w1 =>
        rw [if_pos w1] at q
        split
        · exact Nat.succ_pos _
        · next w2 => rw [if_neg w2] at q; exact absurd q w2
      · next w1 => rw [if_neg w1] at q; exact absurd q w1
    · next w0 => rw [if_neg w0] at q; exact absurd q (show ¬ ((1 : Int32) = 0) by decide)
  have eT : spText B n = spEnd (spLines B n 600 (spWell B n (tkS B n 0) t00 nm0)) := rfl
  rw [eT]
  generalize (spLines B n 600 (spWell B n (tkS B n 0) t00 nm0)) = r at co gr
  by_cases h1 : r.1 = 0
  · obtain ⟨⟨ti, no, g⟩, hJ⟩ := gr h1
    have c := co.1 h1
    have er : r = (0, r.2.1, r.2.2.1, r.2.2.2) := by rw [← h1]
    refine r_iload_3 dX3_readText_74 ?_
    rw [b2i_t h1]
    refine r_if_eq 82 dX3_readText_75 (by decide) (fun c_75 => by exact absurd c_75 (by decide)) (fun c_75 => ?_)
    refine r_aload_0 dX3_readText_78 ?_
    refine r_cWQ0 mX3_readEnd dX3_readText_79 ml_X3_48 mo_X3_readEnd rfl (k_rend c g ti) (by decide) (fun h5 p5 => ?_)
    rw [← er] at p5
    have e4 : h5.1 2 4 = (spEnd r).1 := by
      by_cases q : (spEnd r).1 = 0
      · rw [q]; exact (p5.1 q).2.2.2.2
      · exact (p5.2.1 q).1
    refine r_aload_0 dX3_readText_82 ?_
    refine r_getI dX3_readText_83 fl_X3_29 rfl ?_
    rw [e4]
    refine r_iret dX3_readText_86 rfl ?_
    refine ⟨rfl, fun q => ?_, fun q => (p5.2.1 q).2, co.2.2.tr p5.2.2⟩
    have c5 := p5.1 q
    have es : spEnd r = r ∧ 2 ≤ NT.J r.2.2.1 := by
      unfold spEnd at q ⊢
      rw [if_pos h1] at q ⊢
      by_cases a : r.2.1.1 = 0
      · rw [if_pos a] at q ⊢
        by_cases b : 2 ≤ NT.J r.2.2.1 ∧ cnT r.2.2.1
        · rw [if_pos b]; exact ⟨rfl, b.1⟩
        · rw [if_neg b] at q; exact absurd q (show ¬ ((5 : Int32) = 0) by decide)
      · rw [if_neg a] at q; exact absurd q (show ¬ ((1 : Int32) = 0) by decide)
    rw [es.1] at c5 ⊢
    exact ⟨c5.2.2.1, c5.2.2.2.1, ⟨ti, no, g⟩, es.2⟩
  · have es : spEnd r = r := by unfold spEnd; rw [if_neg h1]
    rw [es]
    have e4 := (co.2.1 h1).1
    refine r_iload_3 dX3_readText_74 ?_
    rw [b2i_f h1]
    refine r_if_eq 82 dX3_readText_75 (by decide) (fun c_75 => ?_) (fun c_75 => by exact absurd rfl c_75)
    refine r_aload_0 dX3_readText_82 ?_
    refine r_getI dX3_readText_83 fl_X3_29 rfl ?_
    rw [e4]
    refine r_iret dX3_readText_86 rfl ?_
    exact ⟨rfl, fun q => absurd q h1, fun q => (co.2.1 q).2, co.2.2⟩

