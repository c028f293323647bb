/-! ===== the reference reads a text ===== -/
set_option maxRecDepth 100000 in
set_option maxHeartbeats 4000000 in
theorem met_in {h : PH} {t : NT} {nm : NMS} (rd : RdG h t nm (NT.E t)) (ti : TI t) {j : Nat} {Q : Option Value → PH → Prop} : ∀ (m e : Nat) (a : Int32), e + m = NT.E t → RT mX8_areMet 1 108 [some (.ref 74), some (.int (rc1 t m e a)), some (.int (nI j)), none, none, none] [] h Q → RT mX8_areMet 1 15 [some (.ref 74), some (.int a), some (.int (nI j)), some (.int (nI (14 + e))), none, none] [] h Q := by
  have hE := ti.2.1
  have hJ := ti.1
  have k1 : h.1 74 26 = nI (NT.E t) := rd.2.1
  intro m
  induction m with
  | zero =>
    intro e a he K
    refine r_iload_3 dX8_areMet_15 ?_
    refine r_bipush (v := nI 14) dX8_areMet_16 (by decide) ?_
    refine r_aload_0 dX8_areMet_18 ?_
    refine r_getI dX8_areMet_19 fl_X8_205 rfl ?_
    rw [k1]
    refine r_iadd dX8_areMet_22 ?_
    rw [nI_ad9]
    refine r_icmpN_ge 108 dX8_areMet_23 (by decide) (by omega) (by omega) (fun c_23 => ?_) (fun c_23 => by omega)
    refine RT.sub (lv' := [some (.ref 74), some (.int a), some (.int (nI j)), none, none, none]) (by simp [lsub, Nat.add_assoc]) ?_
    exact K
  | succ m ih =>
    intro e a he K
    obtain ⟨m1, m2, -⟩ := rd.2.2.2 e (by omega)
    obtain ⟨b1, b2, -⟩ := ti.2.2.1 e (by omega)
    have o0 : a ||| 0 = a := by simp
    have K' : RT mX8_areMet 1 108 [some (.ref 74), some (.int (rc1 t m (e + 1) (if bt a (NT.fi t e) = true ∨ bt a (NT.se t e) = true then a ||| (((1 : Int32) <<< (nI (NT.fi t e) &&& 31)) ||| ((1 : Int32) <<< (nI (NT.se t e) &&& 31))) else a))), some (.int (nI j)), none, none, none] [] h Q := K
    by_cases q1 : bt a (NT.fi t e) = true
    · rw [if_pos (Or.inl q1)] at K'
      by_cases q2 : bt a (NT.se t e) = true
      · skip
        refine r_iload_3 dX8_areMet_15 ?_
        refine r_bipush (v := nI 14) dX8_areMet_16 (by decide) ?_
        refine r_aload_0 dX8_areMet_18 ?_
        refine r_getI dX8_areMet_19 fl_X8_205 rfl ?_
        rw [k1]
        refine r_iadd dX8_areMet_22 ?_
        rw [nI_ad9]
        refine r_icmpN_ge 108 dX8_areMet_23 (by decide) (by omega) (by omega) (fun c_23 => by omega) (fun c_23 => ?_)
        refine r_iload_1 dX8_areMet_26 ?_
        refine r_aload_0 dX8_areMet_27 ?_
        refine r_getR (a := 79) dX8_areMet_28 fl_X8_28 rfl rfl ?_
        refine r_iload_3 dX8_areMet_31 ?_
        refine r_ialdN dX8_areMet_32 rfl (by omega) ?_
        rw [m1]
        refine r_ishr dX8_areMet_33 ?_
        refine r_iconst (v := 1) dX8_areMet_34 (by decide) ?_
        refine r_iand dX8_areMet_35 ?_
        rw [bit_eq _ (by omega), b2i_t q1]
        refine r_iconst (v := 1) dX8_areMet_36 (by decide) ?_
        refine r_icmp_ne 44 dX8_areMet_37 (by decide) (fun c_37 => by exact absurd rfl c_37) (fun c_37 => ?_)
        refine r_iconst (v := 1) dX8_areMet_40 (by decide) ?_
        refine r_goto 45 dX8_areMet_41 (by decide) ?_
        refine r_istore_4 dX8_areMet_45 ?_
        refine r_iload_1 dX8_areMet_47 ?_
        refine r_aload_0 dX8_areMet_48 ?_
        refine r_getR (a := 80) dX8_areMet_49 fl_X8_31 rfl rfl ?_
        refine r_iload_3 dX8_areMet_52 ?_
        refine r_ialdN dX8_areMet_53 rfl (by omega) ?_
        rw [m2]
        refine r_ishr dX8_areMet_54 ?_
        refine r_iconst (v := 1) dX8_areMet_55 (by decide) ?_
        refine r_iand dX8_areMet_56 ?_
        rw [bit_eq _ (by omega), b2i_t q2]
        refine r_iconst (v := 1) dX8_areMet_57 (by decide) ?_
        refine r_icmp_ne 65 dX8_areMet_58 (by decide) (fun c_58 => by exact absurd rfl c_58) (fun c_58 => ?_)
        refine r_iconst (v := 1) dX8_areMet_61 (by decide) ?_
        refine r_goto 66 dX8_areMet_62 (by decide) ?_
        refine r_istore_5 dX8_areMet_66 ?_
        refine r_iload_1 dX8_areMet_68 ?_
        refine r_iload_4 dX8_areMet_69 ?_
        refine r_if_ne 79 dX8_areMet_71 (by decide) (fun c_71 => ?_) (fun c_71 => by exact absurd c_71 (by decide))
        refine r_iconst (v := 1) dX8_areMet_79 (by decide) ?_
        refine r_aload_0 dX8_areMet_80 ?_
        refine r_getR (a := 79) dX8_areMet_81 fl_X8_28 rfl rfl ?_
        refine r_iload_3 dX8_areMet_84 ?_
        refine r_ialdN dX8_areMet_85 rfl (by omega) ?_
        rw [m1]
        refine r_ishl dX8_areMet_86 ?_
        refine r_iconst (v := 1) dX8_areMet_87 (by decide) ?_
        refine r_aload_0 dX8_areMet_88 ?_
        refine r_getR (a := 80) dX8_areMet_89 fl_X8_31 rfl rfl ?_
        refine r_iload_3 dX8_areMet_92 ?_
        refine r_ialdN dX8_areMet_93 rfl (by omega) ?_
        rw [m2]
        refine r_ishl dX8_areMet_94 ?_
        refine r_ior dX8_areMet_95 ?_
        refine r_goto 100 dX8_areMet_96 (by decide) ?_
        refine r_ior dX8_areMet_100 ?_
        refine r_istore_1 dX8_areMet_101 ?_
        refine r_iincN_3 dX8_areMet_102 ?_
        refine r_goto 15 dX8_areMet_105 (by decide) ?_
        refine RT.sub (lv' := [some (.ref 74), some (.int (a ||| (((1 : Int32) <<< (nI (NT.fi t e) &&& 31)) ||| ((1 : Int32) <<< (nI (NT.se t e) &&& 31))))), some (.int (nI j)), some (.int (nI (14 + (e + 1)))), none, none]) (by simp [lsub, Nat.add_assoc]) ?_
        exact ih (e + 1) _ (by omega) K'
      · skip
        refine r_iload_3 dX8_areMet_15 ?_
        refine r_bipush (v := nI 14) dX8_areMet_16 (by decide) ?_
        refine r_aload_0 dX8_areMet_18 ?_
        refine r_getI dX8_areMet_19 fl_X8_205 rfl ?_
        rw [k1]
        refine r_iadd dX8_areMet_22 ?_
        rw [nI_ad9]
        refine r_icmpN_ge 108 dX8_areMet_23 (by decide) (by omega) (by omega) (fun c_23 => by omega) (fun c_23 => ?_)
        refine r_iload_1 dX8_areMet_26 ?_
        refine r_aload_0 dX8_areMet_27 ?_
        refine r_getR (a := 79) dX8_areMet_28 fl_X8_28 rfl rfl ?_
        refine r_iload_3 dX8_areMet_31 ?_
        refine r_ialdN dX8_areMet_32 rfl (by omega) ?_
        rw [m1]
        refine r_ishr dX8_areMet_33 ?_
        refine r_iconst (v := 1) dX8_areMet_34 (by decide) ?_
        refine r_iand dX8_areMet_35 ?_
        rw [bit_eq _ (by omega), b2i_t q1]
        refine r_iconst (v := 1) dX8_areMet_36 (by decide) ?_
        refine r_icmp_ne 44 dX8_areMet_37 (by decide) (fun c_37 => by exact absurd rfl c_37) (fun c_37 => ?_)
        refine r_iconst (v := 1) dX8_areMet_40 (by decide) ?_
        refine r_goto 45 dX8_areMet_41 (by decide) ?_
        refine r_istore_4 dX8_areMet_45 ?_
        refine r_iload_1 dX8_areMet_47 ?_
        refine r_aload_0 dX8_areMet_48 ?_
        refine r_getR (a := 80) dX8_areMet_49 fl_X8_31 rfl rfl ?_
        refine r_iload_3 dX8_areMet_52 ?_
        refine r_ialdN dX8_areMet_53 rfl (by omega) ?_
        rw [m2]
        refine r_ishr dX8_areMet_54 ?_
        refine r_iconst (v := 1) dX8_areMet_55 (by decide) ?_
        refine r_iand dX8_areMet_56 ?_
        rw [bit_eq _ (by omega), b2i_f q2]
        refine r_iconst (v := 1) dX8_areMet_57 (by decide) ?_
        refine r_icmp_ne 65 dX8_areMet_58 (by decide) (fun c_58 => ?_) (fun c_58 => by exact absurd c_58 (by decide))
        refine r_iconst (v := 0) dX8_areMet_65 (by decide) ?_
        refine r_istore_5 dX8_areMet_66 ?_
        refine r_iload_1 dX8_areMet_68 ?_
        refine r_iload_4 dX8_areMet_69 ?_
        refine r_if_ne 79 dX8_areMet_71 (by decide) (fun c_71 => ?_) (fun c_71 => by exact absurd c_71 (by decide))
        refine r_iconst (v := 1) dX8_areMet_79 (by decide) ?_
        refine r_aload_0 dX8_areMet_80 ?_
        refine r_getR (a := 79) dX8_areMet_81 fl_X8_28 rfl rfl ?_
        refine r_iload_3 dX8_areMet_84 ?_
        refine r_ialdN dX8_areMet_85 rfl (by omega) ?_
        rw [m1]
        refine r_ishl dX8_areMet_86 ?_
        refine r_iconst (v := 1) dX8_areMet_87 (by decide) ?_
        refine r_aload_0 dX8_areMet_88 ?_
        refine r_getR (a := 80) dX8_areMet_89 fl_X8_31 rfl rfl ?_
        refine r_iload_3 dX8_areMet_92 ?_
        refine r_ialdN dX8_areMet_93 rfl (by omega) ?_
        rw [m2]
        refine r_ishl dX8_areMet_94 ?_
        refine r_ior dX8_areMet_95 ?_
        refine r_goto 100 dX8_areMet_96 (by decide) ?_
        refine r_ior dX8_areMet_100 ?_
        refine r_istore_1 dX8_areMet_101 ?_
        refine r_iincN_3 dX8_areMet_102 ?_
        refine r_goto 15 dX8_areMet_105 (by decide) ?_
        refine RT.sub (lv' := [some (.ref 74), some (.int (a ||| (((1 : Int32) <<< (nI (NT.fi t e) &&& 31)) ||| ((1 : Int32) <<< (nI (NT.se t e) &&& 31))))), some (.int (nI j)), some (.int (nI (14 + (e + 1)))), none, none]) (by simp [lsub, Nat.add_assoc]) ?_
        exact ih (e + 1) _ (by omega) K'
    · by_cases q2 : bt a (NT.se t e) = true
      · rw [if_pos (Or.inr q2)] at K'
        refine r_iload_3 dX8_areMet_15 ?_
        refine r_bipush (v := nI 14) dX8_areMet_16 (by decide) ?_
        refine r_aload_0 dX8_areMet_18 ?_
        refine r_getI dX8_areMet_19 fl_X8_205 rfl ?_
        rw [k1]
        refine r_iadd dX8_areMet_22 ?_
        rw [nI_ad9]
        refine r_icmpN_ge 108 dX8_areMet_23 (by decide) (by omega) (by omega) (fun c_23 => by omega) (fun c_23 => ?_)
        refine r_iload_1 dX8_areMet_26 ?_
        refine r_aload_0 dX8_areMet_27 ?_
        refine r_getR (a := 79) dX8_areMet_28 fl_X8_28 rfl rfl ?_
        refine r_iload_3 dX8_areMet_31 ?_
        refine r_ialdN dX8_areMet_32 rfl (by omega) ?_
        rw [m1]
        refine r_ishr dX8_areMet_33 ?_
        refine r_iconst (v := 1) dX8_areMet_34 (by decide) ?_
        refine r_iand dX8_areMet_35 ?_
        rw [bit_eq _ (by omega), b2i_f q1]
        refine r_iconst (v := 1) dX8_areMet_36 (by decide) ?_
        refine r_icmp_ne 44 dX8_areMet_37 (by decide) (fun c_37 => ?_) (fun c_37 => by exact absurd c_37 (by decide))
        refine r_iconst (v := 0) dX8_areMet_44 (by decide) ?_
        refine r_istore_4 dX8_areMet_45 ?_
        refine r_iload_1 dX8_areMet_47 ?_
        refine r_aload_0 dX8_areMet_48 ?_
        refine r_getR (a := 80) dX8_areMet_49 fl_X8_31 rfl rfl ?_
        refine r_iload_3 dX8_areMet_52 ?_
        refine r_ialdN dX8_areMet_53 rfl (by omega) ?_
        rw [m2]
        refine r_ishr dX8_areMet_54 ?_
        refine r_iconst (v := 1) dX8_areMet_55 (by decide) ?_
        refine r_iand dX8_areMet_56 ?_
        rw [bit_eq _ (by omega), b2i_t q2]
        refine r_iconst (v := 1) dX8_areMet_57 (by decide) ?_
        refine r_icmp_ne 65 dX8_areMet_58 (by decide) (fun c_58 => by exact absurd rfl c_58) (fun c_58 => ?_)
        refine r_iconst (v := 1) dX8_areMet_61 (by decide) ?_
        refine r_goto 66 dX8_areMet_62 (by decide) ?_
        refine r_istore_5 dX8_areMet_66 ?_
        refine r_iload_1 dX8_areMet_68 ?_
        refine r_iload_4 dX8_areMet_69 ?_
        refine r_if_ne 79 dX8_areMet_71 (by decide) (fun c_71 => by exact absurd rfl c_71) (fun c_71 => ?_)
        refine r_iload_5 dX8_areMet_74 ?_
        refine r_if_eq 99 dX8_areMet_76 (by decide) (fun c_76 => by exact absurd c_76 (by decide)) (fun c_76 => ?_)
        refine r_iconst (v := 1) dX8_areMet_79 (by decide) ?_
        refine r_aload_0 dX8_areMet_80 ?_
        refine r_getR (a := 79) dX8_areMet_81 fl_X8_28 rfl rfl ?_
        refine r_iload_3 dX8_areMet_84 ?_
        refine r_ialdN dX8_areMet_85 rfl (by omega) ?_
        rw [m1]
        refine r_ishl dX8_areMet_86 ?_
        refine r_iconst (v := 1) dX8_areMet_87 (by decide) ?_
        refine r_aload_0 dX8_areMet_88 ?_
        refine r_getR (a := 80) dX8_areMet_89 fl_X8_31 rfl rfl ?_
        refine r_iload_3 dX8_areMet_92 ?_
        refine r_ialdN dX8_areMet_93 rfl (by omega) ?_
        rw [m2]
        refine r_ishl dX8_areMet_94 ?_
        refine r_ior dX8_areMet_95 ?_
        refine r_goto 100 dX8_areMet_96 (by decide) ?_
        refine r_ior dX8_areMet_100 ?_
        refine r_istore_1 dX8_areMet_101 ?_
        refine r_iincN_3 dX8_areMet_102 ?_
        refine r_goto 15 dX8_areMet_105 (by decide) ?_
        refine RT.sub (lv' := [some (.ref 74), some (.int (a ||| (((1 : Int32) <<< (nI (NT.fi t e) &&& 31)) ||| ((1 : Int32) <<< (nI (NT.se t e) &&& 31))))), some (.int (nI j)), some (.int (nI (14 + (e + 1)))), none, none]) (by simp [lsub, Nat.add_assoc]) ?_
        exact ih (e + 1) _ (by omega) K'
      · rw [if_neg (fun q => q.elim q1 q2)] at K'
        refine r_iload_3 dX8_areMet_15 ?_
        refine r_bipush (v := nI 14) dX8_areMet_16 (by decide) ?_
        refine r_aload_0 dX8_areMet_18 ?_
        refine r_getI dX8_areMet_19 fl_X8_205 rfl ?_
        rw [k1]
        refine r_iadd dX8_areMet_22 ?_
        rw [nI_ad9]
        refine r_icmpN_ge 108 dX8_areMet_23 (by decide) (by omega) (by omega) (fun c_23 => by omega) (fun c_23 => ?_)
        refine r_iload_1 dX8_areMet_26 ?_
        refine r_aload_0 dX8_areMet_27 ?_
        refine r_getR (a := 79) dX8_areMet_28 fl_X8_28 rfl rfl ?_
        refine r_iload_3 dX8_areMet_31 ?_
        refine r_ialdN dX8_areMet_32 rfl (by omega) ?_
        rw [m1]
        refine r_ishr dX8_areMet_33 ?_
        refine r_iconst (v := 1) dX8_areMet_34 (by decide) ?_
        refine r_iand dX8_areMet_35 ?_
        rw [bit_eq _ (by omega), b2i_f q1]
        refine r_iconst (v := 1) dX8_areMet_36 (by decide) ?_
        refine r_icmp_ne 44 dX8_areMet_37 (by decide) (fun c_37 => ?_) (fun c_37 => by exact absurd c_37 (by decide))
        refine r_iconst (v := 0) dX8_areMet_44 (by decide) ?_
        refine r_istore_4 dX8_areMet_45 ?_
        refine r_iload_1 dX8_areMet_47 ?_
        refine r_aload_0 dX8_areMet_48 ?_
        refine r_getR (a := 80) dX8_areMet_49 fl_X8_31 rfl rfl ?_
        refine r_iload_3 dX8_areMet_52 ?_
        refine r_ialdN dX8_areMet_53 rfl (by omega) ?_
        rw [m2]
        refine r_ishr dX8_areMet_54 ?_
        refine r_iconst (v := 1) dX8_areMet_55 (by decide) ?_
        refine r_iand dX8_areMet_56 ?_
        rw [bit_eq _ (by omega), b2i_f q2]
        refine r_iconst (v := 1) dX8_areMet_57 (by decide) ?_
        refine r_icmp_ne 65 dX8_areMet_58 (by decide) (fun c_58 => ?_) (fun c_58 => by exact absurd c_58 (by decide))
        refine r_iconst (v := 0) dX8_areMet_65 (by decide) ?_
        refine r_istore_5 dX8_areMet_66 ?_
        refine r_iload_1 dX8_areMet_68 ?_
        refine r_iload_4 dX8_areMet_69 ?_
        refine r_if_ne 79 dX8_areMet_71 (by decide) (fun c_71 => by exact absurd rfl c_71) (fun c_71 => ?_)
        refine r_iload_5 dX8_areMet_74 ?_
        refine r_if_eq 99 dX8_areMet_76 (by decide) (fun c_76 => ?_) (fun c_76 => by exact absurd rfl c_76)
        refine r_iconst (v := 0) dX8_areMet_99 (by decide) ?_
        refine r_ior dX8_areMet_100 ?_
        rw [o0]
        refine r_istore_1 dX8_areMet_101 ?_
        refine r_iincN_3 dX8_areMet_102 ?_
        refine r_goto 15 dX8_areMet_105 (by decide) ?_
        refine RT.sub (lv' := [some (.ref 74), some (.int a), some (.int (nI j)), some (.int (nI (14 + (e + 1)))), none, none]) (by simp [lsub, Nat.add_assoc]) ?_
        exact ih (e + 1) _ (by omega) K'
set_option maxRecDepth 100000 in
set_option maxHeartbeats 4000000 in
theorem met_out {h : PH} {t : NT} {nm : NMS} (rd : RdG h t nm (NT.E t)) (ti : TI t) : ∀ (m j : Nat) (a : Int32), j + m = NT.J t → RT mX8_areMet 1 4 [some (.ref 74), some (.int a), some (.int (nI j)), none, none, none] [] h (fun r h' => r = some (.int (b2i (rc2 t m a = ((1 : Int32) <<< (nI (NT.J t) &&& 31)) - 1))) ∧ h' = h) := by
  have hJ := ti.1
  have k0 : h.1 74 25 = nI (NT.J t) := rd.1
  intro m
  induction m with
  | zero =>
    intro j a hj
    by_cases q : a = ((1 : Int32) <<< (nI (NT.J t) &&& 31)) - 1
    · rw [b2i_t (show rc2 t 0 a = ((1 : Int32) <<< (nI (NT.J t) &&& 31)) - 1 from q)]
      refine r_iload_2 dX8_areMet_4 ?_
      refine r_aload_0 dX8_areMet_5 ?_
      refine r_getI dX8_areMet_6 fl_X8_174 rfl ?_
      rw [k0]
      refine r_icmpN_ge 114 dX8_areMet_9 (by decide) (by omega) (by omega) (fun c_9 => ?_) (fun c_9 => by omega)
      refine r_iload_1 dX8_areMet_114 ?_
      refine r_iconst (v := 1) dX8_areMet_115 (by decide) ?_
      refine r_aload_0 dX8_areMet_116 ?_
      refine r_getI dX8_areMet_117 fl_X8_174 rfl ?_
      rw [k0]
      refine r_ishl dX8_areMet_120 ?_
      refine r_iconst (v := 1) dX8_areMet_121 (by decide) ?_
      refine r_isub dX8_areMet_122 ?_
      refine r_icmp_ne 130 dX8_areMet_123 (by decide) (fun c_123 => by exact absurd q c_123) (fun c_123 => ?_)
      refine r_iconst (v := 1) dX8_areMet_126 (by decide) ?_
      refine r_goto 131 dX8_areMet_127 (by decide) ?_
      refine r_zret dX8_areMet_131 rfl rfl ?_
      exact ⟨rfl, rfl⟩
    · rw [b2i_f (show ¬ rc2 t 0 a = ((1 : Int32) <<< (nI (NT.J t) &&& 31)) - 1 from q)]
      refine r_iload_2 dX8_areMet_4 ?_
      refine r_aload_0 dX8_areMet_5 ?_
      refine r_getI dX8_areMet_6 fl_X8_174 rfl ?_
      rw [k0]
      refine r_icmpN_ge 114 dX8_areMet_9 (by decide) (by omega) (by omega) (fun c_9 => ?_) (fun c_9 => by omega)
      refine r_iload_1 dX8_areMet_114 ?_
      refine r_iconst (v := 1) dX8_areMet_115 (by decide) ?_
      refine r_aload_0 dX8_areMet_116 ?_
      refine r_getI dX8_areMet_117 fl_X8_174 rfl ?_
      rw [k0]
      refine r_ishl dX8_areMet_120 ?_
      refine r_iconst (v := 1) dX8_areMet_121 (by decide) ?_
      refine r_isub dX8_areMet_122 ?_
      refine r_icmp_ne 130 dX8_areMet_123 (by decide) (fun c_123 => ?_) (fun c_123 => by exact absurd c_123 q)
      refine r_iconst (v := 0) dX8_areMet_130 (by decide) ?_
      refine r_zret dX8_areMet_131 rfl rfl ?_
      exact ⟨rfl, rfl⟩
  | succ m ih =>
    intro j a hj
    refine r_iload_2 dX8_areMet_4 ?_
    refine r_aload_0 dX8_areMet_5 ?_
    refine r_getI dX8_areMet_6 fl_X8_174 rfl ?_
    rw [k0]
    refine r_icmpN_ge 114 dX8_areMet_9 (by decide) (by omega) (by omega) (fun c_9 => by omega) (fun c_9 => ?_)
    refine r_bipush (v := nI 14) dX8_areMet_12 (by decide) ?_
    refine r_istore_3 dX8_areMet_14 ?_
    refine met_in rd ti (NT.E t) 0 a (by omega) ?_
    refine r_iincN_2 dX8_areMet_108 ?_
    refine r_goto 4 dX8_areMet_111 (by decide) ?_
    exact ih (j + 1) _ (by omega)
set_option maxRecDepth 100000 in
set_option maxHeartbeats 4000000 in
theorem q_met {h : PH} {t : NT} {nm : NMS} (rd : RdG h t nm (NT.E t)) (ti : TI t) : ConF mX8_areMet 1 [.ref 74] h (some (.int (b2i (cnT t)))) h := by
  refine Con.mk (by decide) ?_
  show RT _ _ 0 [some (.ref 74), none, none, none, none, none] [] _ _
  refine r_iconst (v := 1) dX8_areMet_0 (by decide) ?_
  refine r_istore_1 dX8_areMet_1 ?_
  refine r_iconst (v := nI 0) dX8_areMet_2 (by decide) ?_
  refine r_istore_2 dX8_areMet_3 ?_
  exact met_out rd ti (NT.J t) 0 1 (by omega)

theorem spLines_bad {n : Nat} {B : Nat → Nat} : ∀ (m : Nat) (r : RS), r.1 ≠ 0 → spLines B n m r = r := by
  intro m r h
  cases m with
  | zero => rfl
  | succ m => unfold spLines; rw [if_neg (fun q => h q.1)]
set_option maxRecDepth 100000 in
set_option maxHeartbeats 4000000 in
theorem ra_loop {n : Nat} {B : Nat → Nat} (ok : OKB n B) (h0 : PH) : ∀ (m : Nat) (r : RS) (h : PH), r.1 = 0 → MOut h0 h n B r → GR n B r → 0 < NT.J r.2.2.1 → n ≤ r.2.1.2.1 + m → RT mX8_readAll 11 33 [some (.ref 74), none] [] h (fun a h' => a = some (.int (b2i ((spEnd (spLines B n m r)).1 = 0))) ∧ MOut h0 h' n B (spEnd (spLines B n m r)) ∧ ((spEnd (spLines B n m r)).1 = 0 → GR n B (spEnd (spLines B n m r)) ∧ 2 ≤ NT.J (spEnd (spLines B n m r)).2.2.1)) := by
  intro m
  induction m with
  | zero =>
    intro r h h1 mo gr hJ hm
    obtain ⟨ti, no, g⟩ := gr
    have c := mo.1 h1
    have k4 := g.1.2.2.2
    have tk := g.1.2.2.1
    have tkn := g.1.2.1
    have h3 : r.2.1.1 = 0 := Classical.byContradiction fun q => by have := tk q; omega
    show RT _ _ _ _ _ _ (fun a h' => a = some (.int (b2i ((spEnd r).1 = 0))) ∧ MOut h0 h' n B (spEnd r) ∧ ((spEnd r).1 = 0 → GR n B (spEnd r) ∧ 2 ≤ NT.J (spEnd r).2.2.1))
    have er : r = (0, r.2.1, r.2.2.1, r.2.2.2) := by rw [← h1]
    have tij := ti.1
    by_cases h0' : r.2.1.1 = 0
    · by_cases h2 : 2 ≤ NT.J r.2.2.1
      · by_cases h5 : cnT r.2.2.1
        · have e : spEnd r = r := by unfold spEnd; rw [if_pos h1, if_pos h0', if_pos ⟨h2, h5⟩]
          rw [e]
          refine r_aload_0 dX8_readAll_33 ?_
          refine r_getI dX8_readAll_34 fl_X8_124 rfl ?_
          rw [c.2.1.1]
          refine r_bipush (v := 59) dX8_readAll_37 (by decide) ?_
          refine r_icmp_ne 55 dX8_readAll_39 (by decide) (fun c_39 => ?_) (fun c_39 => by exact absurd ((tkM_c k4).2.1.mp c_39) (by omega))
          refine r_aload_0 dX8_readAll_55 ?_
          refine r_getI dX8_readAll_56 fl_X8_124 rfl ?_
          rw [c.2.1.1]
          refine r_if_eq 68 dX8_readAll_59 (by decide) (fun c_59 => ?_) (fun c_59 => by exact absurd ((tkM_c k4).2.2.mpr h0') c_59)
          refine r_aload_0 dX8_readAll_68 ?_
          refine r_getI dX8_readAll_69 fl_X8_174 rfl ?_
          rw [show h.1 74 25 = nI (NT.J r.2.2.1) from c.2.2.1]
          refine r_iconst (v := nI 1) dX8_readAll_72 (by decide) ?_
          refine r_icmpN_le 83 dX8_readAll_73 (by decide) (by omega) (by omega) (fun c_73 => by omega) (fun c_73 => ?_)
          refine r_aload_0 dX8_readAll_76 ?_
          refine r_cV0 mX8_areMet dX8_readAll_77 ml_X8_226 mo_X8_areMet rfl (q_met c.2.2 ti) (by decide) ?_
          rw [b2i_t h5]
          refine r_if_ne 91 dX8_readAll_80 (by decide) (fun c_80 => ?_) (fun c_80 => by exact absurd c_80 (by decide))
          refine r_iconst (v := 1) dX8_readAll_91 (by decide) ?_
          refine r_goto 96 dX8_readAll_92 (by decide) ?_
          refine r_zret dX8_readAll_96 rfl rfl ?_
          exact ⟨(by first | rfl | exact congrArg (fun x => some (Value.int x)) (b2i_t h1).symm), mo, fun _ => ⟨⟨ti, no, g⟩, h2⟩⟩
        · have e : spEnd r = (5, r.2) := by unfold spEnd; rw [if_pos h1, if_pos h0', if_neg (fun q => h5 q.2)]
          rw [e]
          refine r_aload_0 dX8_readAll_33 ?_
          refine r_getI dX8_readAll_34 fl_X8_124 rfl ?_
          rw [c.2.1.1]
          refine r_bipush (v := 59) dX8_readAll_37 (by decide) ?_
          refine r_icmp_ne 55 dX8_readAll_39 (by decide) (fun c_39 => ?_) (fun c_39 => by exact absurd ((tkM_c k4).2.1.mp c_39) (by omega))
          refine r_aload_0 dX8_readAll_55 ?_
          refine r_getI dX8_readAll_56 fl_X8_124 rfl ?_
          rw [c.2.1.1]
          refine r_if_eq 68 dX8_readAll_59 (by decide) (fun c_59 => ?_) (fun c_59 => by exact absurd ((tkM_c k4).2.2.mpr h0') c_59)
          refine r_aload_0 dX8_readAll_68 ?_
          refine r_getI dX8_readAll_69 fl_X8_174 rfl ?_
          rw [show h.1 74 25 = nI (NT.J r.2.2.1) from c.2.2.1]
          refine r_iconst (v := nI 1) dX8_readAll_72 (by decide) ?_
          refine r_icmpN_le 83 dX8_readAll_73 (by decide) (by omega) (by omega) (fun c_73 => by omega) (fun c_73 => ?_)
          refine r_aload_0 dX8_readAll_76 ?_
          refine r_cV0 mX8_areMet dX8_readAll_77 ml_X8_226 mo_X8_areMet rfl (q_met c.2.2 ti) (by decide) ?_
          rw [b2i_f h5]
          refine r_if_ne 91 dX8_readAll_80 (by decide) (fun c_80 => by exact absurd rfl c_80) (fun c_80 => ?_)
          refine r_aload_0 dX8_readAll_83 ?_
          refine r_iconst (v := 5) dX8_readAll_84 (by decide) ?_
          refine r_cV1 mX8_errs dX8_readAll_85 ml_X8_181 mo_X8_errs rfl (q_errs c.2.1 5) (by decide) ?_
          refine r_if_eq 95 dX8_readAll_88 (by decide) (fun c_88 => ?_) (fun c_88 => by exact absurd rfl c_88)
          refine r_iconst (v := 0) dX8_readAll_95 (by decide) ?_
          refine r_zret dX8_readAll_96 rfl rfl ?_
          exact ⟨(by first | rfl | exact congrArg (fun x => some (Value.int x)) (b2i_f (show ¬ ((5 : Int32) = 0) by decide)).symm), ⟨fun q => absurd q (show ¬ ((5 : Int32) = 0) by decide), fun _ => erH_b, erH_f mo.2.2⟩, fun q => absurd q (show ¬ ((5 : Int32) = 0) by decide)⟩
      · have e : spEnd r = (5, r.2) := by unfold spEnd; rw [if_pos h1, if_pos h0', if_neg (fun q => h2 q.1)]
        rw [e]
        refine r_aload_0 dX8_readAll_33 ?_
        refine r_getI dX8_readAll_34 fl_X8_124 rfl ?_
        rw [c.2.1.1]
        refine r_bipush (v := 59) dX8_readAll_37 (by decide) ?_
        refine r_icmp_ne 55 dX8_readAll_39 (by decide) (fun c_39 => ?_) (fun c_39 => by exact absurd ((tkM_c k4).2.1.mp c_39) (by omega))
        refine r_aload_0 dX8_readAll_55 ?_
        refine r_getI dX8_readAll_56 fl_X8_124 rfl ?_
        rw [c.2.1.1]
        refine r_if_eq 68 dX8_readAll_59 (by decide) (fun c_59 => ?_) (fun c_59 => by exact absurd ((tkM_c k4).2.2.mpr h0') c_59)
        refine r_aload_0 dX8_readAll_68 ?_
        refine r_getI dX8_readAll_69 fl_X8_174 rfl ?_
        rw [show h.1 74 25 = nI (NT.J r.2.2.1) from c.2.2.1]
        refine r_iconst (v := nI 1) dX8_readAll_72 (by decide) ?_
        refine r_icmpN_le 83 dX8_readAll_73 (by decide) (by omega) (by omega) (fun c_73 => ?_) (fun c_73 => by omega)
        refine r_aload_0 dX8_readAll_83 ?_
        refine r_iconst (v := 5) dX8_readAll_84 (by decide) ?_
        refine r_cV1 mX8_errs dX8_readAll_85 ml_X8_181 mo_X8_errs rfl (q_errs c.2.1 5) (by decide) ?_
        refine r_if_eq 95 dX8_readAll_88 (by decide) (fun c_88 => ?_) (fun c_88 => by exact absurd rfl c_88)
        refine r_iconst (v := 0) dX8_readAll_95 (by decide) ?_
        refine r_zret dX8_readAll_96 rfl rfl ?_
        exact ⟨(by first | rfl | exact congrArg (fun x => some (Value.int x)) (b2i_f (show ¬ ((5 : Int32) = 0) by decide)).symm), ⟨fun q => absurd q (show ¬ ((5 : Int32) = 0) by decide), fun _ => erH_b, erH_f mo.2.2⟩, fun q => absurd q (show ¬ ((5 : Int32) = 0) by decide)⟩
    · have e : spEnd r = (1, r.2) := by unfold spEnd; rw [if_pos h1, if_neg h0']
      rw [e]
      refine r_aload_0 dX8_readAll_33 ?_
      refine r_getI dX8_readAll_34 fl_X8_124 rfl ?_
      rw [c.2.1.1]
      refine r_bipush (v := 59) dX8_readAll_37 (by decide) ?_
      refine r_icmp_ne 55 dX8_readAll_39 (by decide) (fun c_39 => ?_) (fun c_39 => by exact absurd ((tkM_c k4).2.1.mp c_39) (by omega))
      refine r_aload_0 dX8_readAll_55 ?_
      refine r_getI dX8_readAll_56 fl_X8_124 rfl ?_
      rw [c.2.1.1]
      refine r_if_eq 68 dX8_readAll_59 (by decide) (fun c_59 => by exact absurd ((tkM_c k4).2.2.mp c_59) h0') (fun c_59 => ?_)
      refine r_aload_0 dX8_readAll_62 ?_
      refine r_iconst (v := 1) dX8_readAll_63 (by decide) ?_
      refine r_cV1 mX8_errs dX8_readAll_64 ml_X8_181 mo_X8_errs rfl (q_errs c.2.1 1) (by decide) ?_
      refine r_zret dX8_readAll_67 rfl rfl ?_
      exact ⟨(by first | rfl | exact congrArg (fun x => some (Value.int x)) (b2i_f (show ¬ ((1 : Int32) = 0) by decide)).symm), ⟨fun q => absurd q (show ¬ ((1 : Int32) = 0) by decide), fun _ => erH_b, erH_f mo.2.2⟩, fun q => absurd q (show ¬ ((1 : Int32) = 0) by decide)⟩
  | succ m ih =>
    intro r h h1 mo gr hJ hm
    obtain ⟨ti, no, g⟩ := gr
    have c := mo.1 h1
    have k4 := g.1.2.2.2
    have tk := g.1.2.2.1
    unfold spLines
    by_cases h3 : r.2.1.1 = 3
    · rw [if_pos ⟨h1, h3⟩]
      have g1 := g.nx
      have tk0 := tk (by rw [h3]; decide)
      by_cases hr : (spLine B n (nx B n r.2.1) r.2.2.1 r.2.2.2).1 = 0
      · have sg := spLine_g g1.1 ti no hJ hr
        refine r_aload_0 dX8_readAll_33 ?_
        refine r_getI dX8_readAll_34 fl_X8_124 rfl ?_
        rw [c.2.1.1]
        refine r_bipush (v := 59) dX8_readAll_37 (by decide) ?_
        refine r_icmp_ne 55 dX8_readAll_39 (by decide) (fun c_39 => by exact absurd ((tkM_c k4).2.1.mpr h3) c_39) (fun c_39 => ?_)
        refine r_aload_0 dX8_readAll_42 ?_
        refine r_cWQ0 mX8_goesOn dX8_readAll_43 ml_X8_188 mo_X8_goesOn rfl (q_goesOn ok c.1 g.1.2.1 c.2.1.2.2.1) (by decide) (fun h2 p2 => ?_)
        obtain ⟨c2, f2⟩ := c.go (k' := nx B n r.2.1) p2
        refine r_aload_0 dX8_readAll_46 ?_
        refine r_cVQ0 mX8_readLine dX8_readAll_47 ml_X8_223 mo_X8_readLine rfl (q_line ok c2 g1.1 ti no hJ) (by decide) (fun h3 p3 => ?_)
        rw [b2i_t hr]
        refine r_if_ne 33 dX8_readAll_50 (by decide) (fun c_50 => ?_) (fun c_50 => by exact absurd c_50 (by decide))
        exact ih _ h3 hr ⟨p3.1, p3.2.1, (mo.2.2.tr f2).tr p3.2.2⟩ sg.1 sg.2.2 (by have := sg.2.1; have := g1.2; have := g1.1.1.1; omega)
      · rw [spLines_bad m _ hr]
        have es : spEnd (spLine B n (nx B n r.2.1) r.2.2.1 r.2.2.2) = spLine B n (nx B n r.2.1) r.2.2.1 r.2.2.2 := by unfold spEnd; rw [if_neg hr]
        rw [es]
        refine r_aload_0 dX8_readAll_33 ?_
        refine r_getI dX8_readAll_34 fl_X8_124 rfl ?_
        rw [c.2.1.1]
        refine r_bipush (v := 59) dX8_readAll_37 (by decide) ?_
        refine r_icmp_ne 55 dX8_readAll_39 (by decide) (fun c_39 => by exact absurd ((tkM_c k4).2.1.mpr h3) c_39) (fun c_39 => ?_)
        refine r_aload_0 dX8_readAll_42 ?_
        refine r_cWQ0 mX8_goesOn dX8_readAll_43 ml_X8_188 mo_X8_goesOn rfl (q_goesOn ok c.1 g.1.2.1 c.2.1.2.2.1) (by decide) (fun h2 p2 => ?_)
        obtain ⟨c2, f2⟩ := c.go (k' := nx B n r.2.1) p2
        refine r_aload_0 dX8_readAll_46 ?_
        refine r_cVQ0 mX8_readLine dX8_readAll_47 ml_X8_223 mo_X8_readLine rfl (q_line ok c2 g1.1 ti no hJ) (by decide) (fun h3 p3 => ?_)
        rw [b2i_f hr]
        refine r_if_ne 33 dX8_readAll_50 (by decide) (fun c_50 => by exact absurd rfl c_50) (fun c_50 => ?_)
        refine r_iconst (v := 0) dX8_readAll_53 (by decide) ?_
        refine r_zret dX8_readAll_54 rfl rfl ?_
        exact ⟨(by first | rfl | exact congrArg (fun x => some (Value.int x)) (b2i_f hr).symm), ⟨p3.1, p3.2.1, (mo.2.2.tr f2).tr p3.2.2⟩, fun q => absurd q hr⟩
    · rw [if_neg (fun q => h3 q.2)]
      have er : r = (0, r.2.1, r.2.2.1, r.2.2.2) := by rw [← h1]
      have tij := ti.1
      by_cases h0' : r.2.1.1 = 0
      · by_cases h2 : 2 ≤ NT.J r.2.2.1
        · by_cases h5 : cnT r.2.2.1
          · have e : spEnd r = r := by unfold spEnd; rw [if_pos h1, if_pos h0', if_pos ⟨h2, h5⟩]
            rw [e]
            refine r_aload_0 dX8_readAll_33 ?_
            refine r_getI dX8_readAll_34 fl_X8_124 rfl ?_
            rw [c.2.1.1]
            refine r_bipush (v := 59) dX8_readAll_37 (by decide) ?_
            refine r_icmp_ne 55 dX8_readAll_39 (by decide) (fun c_39 => ?_) (fun c_39 => by exact absurd ((tkM_c k4).2.1.mp c_39) h3)
            refine r_aload_0 dX8_readAll_55 ?_
            refine r_getI dX8_readAll_56 fl_X8_124 rfl ?_
            rw [c.2.1.1]
            refine r_if_eq 68 dX8_readAll_59 (by decide) (fun c_59 => ?_) (fun c_59 => by exact absurd ((tkM_c k4).2.2.mpr h0') c_59)
            refine r_aload_0 dX8_readAll_68 ?_
            refine r_getI dX8_readAll_69 fl_X8_174 rfl ?_
            rw [show h.1 74 25 = nI (NT.J r.2.2.1) from c.2.2.1]
            refine r_iconst (v := nI 1) dX8_readAll_72 (by decide) ?_
            refine r_icmpN_le 83 dX8_readAll_73 (by decide) (by omega) (by omega) (fun c_73 => by omega) (fun c_73 => ?_)
            refine r_aload_0 dX8_readAll_76 ?_
            refine r_cV0 mX8_areMet dX8_readAll_77 ml_X8_226 mo_X8_areMet rfl (q_met c.2.2 ti) (by decide) ?_
            rw [b2i_t h5]
            refine r_if_ne 91 dX8_readAll_80 (by decide) (fun c_80 => ?_) (fun c_80 => by exact absurd c_80 (by decide))
            refine r_iconst (v := 1) dX8_readAll_91 (by decide) ?_
            refine r_goto 96 dX8_readAll_92 (by decide) ?_
            refine r_zret dX8_readAll_96 rfl rfl ?_
            exact ⟨(by first | rfl | exact congrArg (fun x => some (Value.int x)) (b2i_t h1).symm), mo, fun _ => ⟨⟨ti, no, g⟩, h2⟩⟩
          · have e : spEnd r = (5, r.2) := by unfold spEnd; rw [if_pos h1, if_pos h0', if_neg (fun q => h5 q.2)]
            rw [e]
            refine r_aload_0 dX8_readAll_33 ?_
            refine r_getI dX8_readAll_34 fl_X8_124 rfl ?_
            rw [c.2.1.1]
            refine r_bipush (v := 59) dX8_readAll_37 (by decide) ?_
            refine r_icmp_ne 55 dX8_readAll_39 (by decide) (fun c_39 => ?_) (fun c_39 => by exact absurd ((tkM_c k4).2.1.mp c_39) h3)
            refine r_aload_0 dX8_readAll_55 ?_
            refine r_getI dX8_readAll_56 fl_X8_124 rfl ?_
            rw [c.2.1.1]
            refine r_if_eq 68 dX8_readAll_59 (by decide) (fun c_59 => ?_) (fun c_59 => by exact absurd ((tkM_c k4).2.2.mpr h0') c_59)
            refine r_aload_0 dX8_readAll_68 ?_
            refine r_getI dX8_readAll_69 fl_X8_174 rfl ?_
            rw [show h.1 74 25 = nI (NT.J r.2.2.1) from c.2.2.1]
            refine r_iconst (v := nI 1) dX8_readAll_72 (by decide) ?_
            refine r_icmpN_le 83 dX8_readAll_73 (by decide) (by omega) (by omega) (fun c_73 => by omega) (fun c_73 => ?_)
            refine r_aload_0 dX8_readAll_76 ?_
            refine r_cV0 mX8_areMet dX8_readAll_77 ml_X8_226 mo_X8_areMet rfl (q_met c.2.2 ti) (by decide) ?_
            rw [b2i_f h5]
            refine r_if_ne 91 dX8_readAll_80 (by decide) (fun c_80 => by exact absurd rfl c_80) (fun c_80 => ?_)
            refine r_aload_0 dX8_readAll_83 ?_
            refine r_iconst (v := 5) dX8_readAll_84 (by decide) ?_
            refine r_cV1 mX8_errs dX8_readAll_85 ml_X8_181 mo_X8_errs rfl (q_errs c.2.1 5) (by decide) ?_
            refine r_if_eq 95 dX8_readAll_88 (by decide) (fun c_88 => ?_) (fun c_88 => by exact absurd rfl c_88)
            refine r_iconst (v := 0) dX8_readAll_95 (by decide) ?_
            refine r_zret dX8_readAll_96 rfl rfl ?_
            exact ⟨(by first | rfl | exact congrArg (fun x => some (Value.int x)) (b2i_f (show ¬ ((5 : Int32) = 0) by decide)).symm), ⟨fun q => absurd q (show ¬ ((5 : Int32) = 0) by decide), fun _ => erH_b, erH_f mo.2.2⟩, fun q => absurd q (show ¬ ((5 : Int32) = 0) by decide)⟩
        · have e : spEnd r = (5, r.2) := by unfold spEnd; rw [if_pos h1, if_pos h0', if_neg (fun q => h2 q.1)]
          rw [e]
          refine r_aload_0 dX8_readAll_33 ?_
          refine r_getI dX8_readAll_34 fl_X8_124 rfl ?_
          rw [c.2.1.1]
          refine r_bipush (v := 59) dX8_readAll_37 (by decide) ?_
          refine r_icmp_ne 55 dX8_readAll_39 (by decide) (fun c_39 => ?_) (fun c_39 => by exact absurd ((tkM_c k4).2.1.mp c_39) h3)
          refine r_aload_0 dX8_readAll_55 ?_
          refine r_getI dX8_readAll_56 fl_X8_124 rfl ?_
          rw [c.2.1.1]
          refine r_if_eq 68 dX8_readAll_59 (by decide) (fun c_59 => ?_) (fun c_59 => by exact absurd ((tkM_c k4).2.2.mpr h0') c_59)
          refine r_aload_0 dX8_readAll_68 ?_
          refine r_getI dX8_readAll_69 fl_X8_174 rfl ?_
          rw [show h.1 74 25 = nI (NT.J r.2.2.1) from c.2.2.1]
          refine r_iconst (v := nI 1) dX8_readAll_72 (by decide) ?_
          refine r_icmpN_le 83 dX8_readAll_73 (by decide) (by omega) (by omega) (fun c_73 => ?_) (fun c_73 => by omega)
          refine r_aload_0 dX8_readAll_83 ?_
          refine r_iconst (v := 5) dX8_readAll_84 (by decide) ?_
          refine r_cV1 mX8_errs dX8_readAll_85 ml_X8_181 mo_X8_errs rfl (q_errs c.2.1 5) (by decide) ?_
          refine r_if_eq 95 dX8_readAll_88 (by decide) (fun c_88 => ?_) (fun c_88 => by exact absurd rfl c_88)
          refine r_iconst (v := 0) dX8_readAll_95 (by decide) ?_
          refine r_zret dX8_readAll_96 rfl rfl ?_
          exact ⟨(by first | rfl | exact congrArg (fun x => some (Value.int x)) (b2i_f (show ¬ ((5 : Int32) = 0) by decide)).symm), ⟨fun q => absurd q (show ¬ ((5 : Int32) = 0) by decide), fun _ => erH_b, erH_f mo.2.2⟩, fun q => absurd q (show ¬ ((5 : Int32) = 0) by decide)⟩
      · have e : spEnd r = (1, r.2) := by unfold spEnd; rw [if_pos h1, if_neg h0']
        rw [e]
        refine r_aload_0 dX8_readAll_33 ?_
        refine r_getI dX8_readAll_34 fl_X8_124 rfl ?_
        rw [c.2.1.1]
        refine r_bipush (v := 59) dX8_readAll_37 (by decide) ?_
        refine r_icmp_ne 55 dX8_readAll_39 (by decide) (fun c_39 => ?_) (fun c_39 => by exact absurd ((tkM_c k4).2.1.mp c_39) h3)
        refine r_aload_0 dX8_readAll_55 ?_
        refine r_getI dX8_readAll_56 fl_X8_124 rfl ?_
        rw [c.2.1.1]
        refine r_if_eq 68 dX8_readAll_59 (by decide) (fun c_59 => by exact absurd ((tkM_c k4).2.2.mp c_59) h0') (fun c_59 => ?_)
        refine r_aload_0 dX8_readAll_62 ?_
        refine r_iconst (v := 1) dX8_readAll_63 (by decide) ?_
        refine r_cV1 mX8_errs dX8_readAll_64 ml_X8_181 mo_X8_errs rfl (q_errs c.2.1 1) (by decide) ?_
        refine r_zret dX8_readAll_67 rfl rfl ?_
        exact ⟨(by first | rfl | exact congrArg (fun x => some (Value.int x)) (b2i_f (show ¬ ((1 : Int32) = 0) by decide)).symm), ⟨fun q => absurd q (show ¬ ((1 : Int32) = 0) by decide), fun _ => erH_b, erH_f mo.2.2⟩, fun q => absurd q (show ¬ ((1 : Int32) = 0) by decide)⟩
set_option maxRecDepth 100000 in
set_option maxHeartbeats 4000000 in
theorem q_readAll {n : Nat} {B : Nat → Nat} (ok : OKB n B) {h : PH} (hb : ∀ i, i < n → h.1 75 i = nI (B i)) : Con mX8_readAll 11 [.ref 74, .int (nI n)] h (fun a h' => a = some (.int (b2i ((spText B n).1 = 0))) ∧ (MOut (pI h 74 18 (nI n)) h' n B (spText B n) ∧ ((spText B n).1 = 0 → GR n B (spText B n) ∧ 2 ≤ NT.J (spText B n).2.2.1))) := by
  have hn := ok.1
  have f0 : FR (pI h 74 18 (nI n)) (pI (pI (pI (pI h 74 18 (nI n)) 74 20 0) 74 25 0) 74 26 0) := fr_pF (fr_pF (fr_pF FR.rf (by decide) (by decide)) (by decide) (by decide)) (by decide) (by decide)
  have z18 : (pI (pI (pI (pI h 74 18 (nI n)) 74 20 0) 74 25 0) 74 26 0).1 74 18 = nI n := by simp (decide := true) only [pI_1, pI_2, pL_1, pL_2, pA_1, pA_2, pB_1, pB_2, Nat.add_left_cancel_iff, Nat.add_right_cancel_iff, Nat.add_eq_left, Nat.left_eq_add, true_and, false_and, and_false, and_true, and_self, if_true, if_false, ite_true, ite_false]
  have z20 : (pI (pI (pI (pI h 74 18 (nI n)) 74 20 0) 74 25 0) 74 26 0).1 74 20 = nI 0 := by simp (decide := true) only [pI_1, pI_2, pL_1, pL_2, pA_1, pA_2, pB_1, pB_2, Nat.add_left_cancel_iff, Nat.add_right_cancel_iff, Nat.add_eq_left, Nat.left_eq_add, true_and, false_and, and_false, and_true, and_self, if_true, if_false, ite_true, ite_false]
  have z25 : (pI (pI (pI (pI h 74 18 (nI n)) 74 20 0) 74 25 0) 74 26 0).1 74 25 = nI 0 := by simp (decide := true) only [pI_1, pI_2, pL_1, pL_2, pA_1, pA_2, pB_1, pB_2, Nat.add_left_cancel_iff, Nat.add_right_cancel_iff, Nat.add_eq_left, Nat.left_eq_add, true_and, false_and, and_false, and_true, and_self, if_true, if_false, ite_true, ite_false]
  have z26 : (pI (pI (pI (pI h 74 18 (nI n)) 74 20 0) 74 25 0) 74 26 0).1 74 26 = nI 0 := by rw [pI_eq]; rfl
  have mb0 : MB (pI (pI (pI (pI h 74 18 (nI n)) 74 20 0) 74 25 0) 74 26 0) n B := ⟨z18, fun i hi => by rw [f0.2.2 75 i (by decide) (by omega), pI_ne 75 i (Or.inl (by decide))]; exact hb i hi⟩
  have rd0 : RdG (pI (pI (pI (pI h 74 18 (nI n)) 74 20 0) 74 25 0) 74 26 0) t00 nm0 0 := ⟨z25, z26, fun j hj => absurd hj (Nat.not_lt_zero _), fun e he => absurd he (Nat.not_lt_zero _)⟩
  have g0 : TGd n B (tkS B n 0) := ⟨(tkS_ok (by omega)).1, tkS_w⟩
  have ti0 : TI t00 := ⟨by decide, by decide, fun e he => absurd he (Nat.not_lt_zero _), fun j hj => absurd hj (Nat.not_lt_zero _), by decide +kernel, fun q => absurd q (by decide), rfl⟩
  have no0 : nmOK t00 nm0 := fun j hj => absurd hj (Nat.not_lt_zero _)
  refine Con.mk (by decide) ?_
  show RT _ _ 0 [some (.ref 74), some (.int (nI n))] [] _ _
  by_cases hr : (spWell B n (tkS B n 0) t00 nm0).1 = 0
  · refine r_aload_0 dX8_readAll_0 ?_
    refine r_iload_1 dX8_readAll_1 ?_
    refine r_putI dX8_readAll_2 fl_X8_111 rfl rfl rfl ?_
    refine r_aload_0 dX8_readAll_5 ?_
    refine r_iconst (v := 0) dX8_readAll_6 (by decide) ?_
    refine r_putI dX8_readAll_7 fl_X8_114 rfl rfl rfl ?_
    refine r_aload_0 dX8_readAll_10 ?_
    refine r_iconst (v := 0) dX8_readAll_11 (by decide) ?_
    refine r_putI dX8_readAll_12 fl_X8_174 rfl rfl rfl ?_
    refine r_aload_0 dX8_readAll_15 ?_
    refine r_iconst (v := 0) dX8_readAll_16 (by decide) ?_
    refine r_putI dX8_readAll_17 fl_X8_205 rfl rfl rfl ?_
    generalize (pI (pI (pI (pI h 74 18 (nI n)) 74 20 0) 74 25 0) 74 26 0) = H at f0 z18 z20 z25 z26 mb0 rd0
    refine r_aload_0 dX8_readAll_20 ?_
    refine r_cWQ0 mX8_goesOn dX8_readAll_21 ml_X8_188 mo_X8_goesOn rfl (q_goesOn ok mb0 (Nat.zero_le n) z20) (by decide) (fun h2 p2 => ?_)
    have c2 : RMd h2 n B (tkS B n 0) t00 nm0 := ⟨mb0.fm p2.2 (by unfold tkF; omega), p2.1, rd0.fm p2.2 (by unfold tkF; omega) (by unfold tkF; omega)⟩
    have f2 := f0.tr (fr_fm p2.2 (fun k q => tkF_r q))
    refine r_aload_0 dX8_readAll_24 ?_
    refine r_cVQ0 mX8_readWell dX8_readAll_25 ml_X8_220 mo_X8_readWell rfl (q_well ok c2 g0 ti0 no0 rfl) (by decide) (fun h3 p3 => ?_)
    rw [b2i_t hr]
    refine r_if_ne 33 dX8_readAll_28 (by decide) (fun c_28 => ?_) (fun c_28 => by exact absurd c_28 (by decide))
    refine RT.sub (lv' := [some (.ref 74), none]) (by simp [lsub]) ?_
    have hJ : 0 < NT.J (spWell B n (tkS B n 0) t00 nm0).2.2.1 := by
      have q := hr
      unfold spWell at q ⊢
      split
      · next w0 =>
        rw [if_pos w0] at q
        split
        · next w1 =>
          rw [if_pos w1] at q
          split
          · exact Nat.succ_pos _
          · next w2 => rw [if_neg w2] at q; exact absurd q w2
        · next w1 => rw [if_neg w1] at q; exact absurd q w1
      · next w0 => rw [if_neg w0] at q; exact absurd q (show ¬ ((1 : Int32) = 0) by decide)
    exact ra_loop ok (pI h 74 18 (nI n)) 600 _ h3 hr ⟨p3.1, p3.2.1, f2.tr p3.2.2⟩ (spWell_g g0 ti0 no0 rfl hr) hJ (by omega)
  · have es : spText B n = spWell B n (tkS B n 0) t00 nm0 := by unfold spText; rw [spLines_bad 600 _ hr]; unfold spEnd; rw [if_neg hr]
    rw [es]
    refine r_aload_0 dX8_readAll_0 ?_
    refine r_iload_1 dX8_readAll_1 ?_
    refine r_putI dX8_readAll_2 fl_X8_111 rfl rfl rfl ?_
    refine r_aload_0 dX8_readAll_5 ?_
    refine r_iconst (v := 0) dX8_readAll_6 (by decide) ?_
    refine r_putI dX8_readAll_7 fl_X8_114 rfl rfl rfl ?_
    refine r_aload_0 dX8_readAll_10 ?_
    refine r_iconst (v := 0) dX8_readAll_11 (by decide) ?_
    refine r_putI dX8_readAll_12 fl_X8_174 rfl rfl rfl ?_
    refine r_aload_0 dX8_readAll_15 ?_
    refine r_iconst (v := 0) dX8_readAll_16 (by decide) ?_
    refine r_putI dX8_readAll_17 fl_X8_205 rfl rfl rfl ?_
    generalize (pI (pI (pI (pI h 74 18 (nI n)) 74 20 0) 74 25 0) 74 26 0) = H at f0 z18 z20 z25 z26 mb0 rd0
    refine r_aload_0 dX8_readAll_20 ?_
    refine r_cWQ0 mX8_goesOn dX8_readAll_21 ml_X8_188 mo_X8_goesOn rfl (q_goesOn ok mb0 (Nat.zero_le n) z20) (by decide) (fun h2 p2 => ?_)
    have c2 : RMd h2 n B (tkS B n 0) t00 nm0 := ⟨mb0.fm p2.2 (by unfold tkF; omega), p2.1, rd0.fm p2.2 (by unfold tkF; omega) (by unfold tkF; omega)⟩
    have f2 := f0.tr (fr_fm p2.2 (fun k q => tkF_r q))
    refine r_aload_0 dX8_readAll_24 ?_
    refine r_cVQ0 mX8_readWell dX8_readAll_25 ml_X8_220 mo_X8_readWell rfl (q_well ok c2 g0 ti0 no0 rfl) (by decide) (fun h3 p3 => ?_)
    rw [b2i_f hr]
    refine r_if_ne 33 dX8_readAll_28 (by decide) (fun c_28 => by exact absurd rfl c_28) (fun c_28 => ?_)
    refine r_iconst (v := 0) dX8_readAll_31 (by decide) ?_
    refine r_zret dX8_readAll_32 rfl rfl ?_
    exact ⟨(by first | rfl | exact congrArg (fun x => some (Value.int x)) (b2i_f hr).symm), ⟨p3.1, p3.2.1, f2.tr p3.2.2⟩, fun q => absurd q hr⟩

