/-! ===== the class reads: names, numbers, what is added ===== -/
def CRd (h : PH) (n : Nat) (B : Nat → Nat) (k : TK) (t : NT) (nm : NMS) : Prop := CB h n B ∧ CK h B k ∧ NetC h 3 t ∧ NamC h 3 t nm ∧ h.1 2 4 = 0
def FCr (h h' : PH) : Prop := Fr (fun y => 2 ≤ y ∧ y < 13) h h'
theorem FCr.tr {h h' h'' : PH} (a : FCr h h') (b : FCr h' h'') : FCr h h'' := Fr.tr a b
theorem F2.fc {h h' : PH} (f : F2 h h') : FCr h h' := f.2.2.wk (fun y q => by omega)
theorem fc_b {h h' : PH} (a : FCr h h') {x : Int32} : FCr h (pI h' 2 4 x) := Fr.pI a ⟨by omega, by omega⟩
theorem CRd.tok {h h' : PH} {n : Nat} {B : Nat → Nat} {k : TK} {t : NT} {nm : NMS} (c : CRd h n B k t nm) (p : CK h' B (tkS B n k.2.2) ∧ F2 h h') : CRd h' n B (nx B n k) t nm := by
  obtain ⟨c1, c2, c3, c4, c5⟩ := c
  obtain ⟨p1, p2⟩ := p
  refine ⟨c1.f2 p2, p1, c3.fr p2.2.2 (fun j hj q => by omega), fun j hj => ?_, (p2.1 4 (by decide) (by decide) (by decide) (by decide)).trans c5⟩
  rw [(p2.2.2 4 (by decide)).2]; exact c4 j hj
theorem kc_all : lN (packN (kwL 0)) = 2003135596 ∧ lN (packN (kwL 1)) = 457135713908 ∧ lN (packN (kwL 2)) = 24948 ∧ lN (packN (kwL 3)) = 1885958245 ∧ lN (packN (kwL 4)) = 426953237355 ∧ lN (packN (kwL 5)) = 1886743920 := by decide +kernel
theorem wk_i {n : Nat} {B : Nat → Nat} {k : TK} (g : TGd n B k) (h1 : k.1 = 1) {i : Nat} (hi : i < 6) {c : Int64} (hc : lN (packN (kwL i)) = c) : lN (packN (wd B k)) = c ↔ wd B k = kwL i := by
  rw [← hc]; exact word_eq (wd_lets g.2 h1).1 (kw_lets i hi) (wd_lets g.2 h1).2 (kw_len i hi).2.1
set_option maxRecDepth 100000 in
set_option maxHeartbeats 4000000 in
theorem k_blame (h : PH) (x : Int32) : ConF mX3_blame 1 [.ref 2, .int x] h (some (.int 0)) (pI h 2 4 x) := by
  refine Con.mk (by decide) ?_
  show RT _ _ 0 [some (.ref 2), some (.int x)] [] _ _
  refine r_aload_0 dX3_blame_0 ?_
  refine r_iload_1 dX3_blame_1 ?_
  refine r_putI dX3_blame_2 fl_X3_29 rfl rfl rfl ?_
  refine r_iconst (v := 0) dX3_blame_5 (by decide) ?_
  refine r_zret dX3_blame_6 rfl rfl ?_
  exact ⟨rfl, rfl⟩

set_option maxRecDepth 100000 in
set_option maxHeartbeats 4000000 in
theorem k_isNm {h : PH} {n : Nat} {B : Nat → Nat} {k : TK} (ck : CK h B k) (g : TGd n B k) : ConF mX3_isName 1 [.ref 2] h (some (.int (b2i (isNm B k)))) h := by
  obtain ⟨kc0, kc1, kc2, kc3, kc4, kc5⟩ := kc_all
  have k4 := g.1.2.2.2
  have m1 := ck.1
  refine Con.mk (by decide) ?_
  show RT _ _ 0 [some (.ref 2)] [] _ _
  by_cases h1 : k.1 = 1
  · have mw := ck.2.2.2.1 h1
    have wk := fun {i : Nat} (hi : i < 6) {c : Int64} (hc : lN (packN (kwL i)) = c) => wk_i g h1 hi hc
    by_cases w0 : wd B k = kwL 0
    · rw [b2i_f (fun q : isNm B k => q.2.1 w0)]
      refine r_aload_0 dX3_isName_0 ?_
      refine r_getI dX3_isName_1 fl_X3_42 rfl ?_
      rw [m1]
      refine r_iconst (v := 1) dX3_isName_4 (by decide) ?_
      refine r_icmp_ne 78 dX3_isName_5 (by decide) (fun c_5 => by exact absurd (by rw [h1]; rfl) c_5) (fun c_5 => ?_)
      refine r_aload_0 dX3_isName_8 ?_
      refine r_getL dX3_isName_9 fl_X3_88 rfl ?_
      rw [mw]
      refine r_ldc2 dX3_isName_12 ks_X3_61 ?_
      refine r_lif_eq 78 dX3_isName_15 dX3_isName_16 (by decide) (fun c_15 => ?_) (fun c_15 => by exact absurd ((wk (i := 0) (by decide) kc0).mpr w0) c_15)
      refine r_iconst (v := 0) dX3_isName_78 (by decide) ?_
      refine r_zret dX3_isName_79 rfl rfl ?_
      exact ⟨rfl, rfl⟩
    · by_cases w1 : wd B k = kwL 1
      · rw [b2i_f (fun q : isNm B k => q.2.2.1 w1)]
        refine r_aload_0 dX3_isName_0 ?_
        refine r_getI dX3_isName_1 fl_X3_42 rfl ?_
        rw [m1]
        refine r_iconst (v := 1) dX3_isName_4 (by decide) ?_
        refine r_icmp_ne 78 dX3_isName_5 (by decide) (fun c_5 => by exact absurd (by rw [h1]; rfl) c_5) (fun c_5 => ?_)
        refine r_aload_0 dX3_isName_8 ?_
        refine r_getL dX3_isName_9 fl_X3_88 rfl ?_
        rw [mw]
        refine r_ldc2 dX3_isName_12 ks_X3_61 ?_
        refine r_lif_eq 78 dX3_isName_15 dX3_isName_16 (by decide) (fun c_15 => by exact absurd ((wk (i := 0) (by decide) kc0).mp c_15) w0) (fun c_15 => ?_)
        refine r_aload_0 dX3_isName_19 ?_
        refine r_getL dX3_isName_20 fl_X3_88 rfl ?_
        rw [mw]
        refine r_ldc2 dX3_isName_23 ks_X3_91 ?_
        refine r_lif_eq 78 dX3_isName_26 dX3_isName_27 (by decide) (fun c_26 => ?_) (fun c_26 => by exact absurd ((wk (i := 1) (by decide) kc1).mpr w1) c_26)
        refine r_iconst (v := 0) dX3_isName_78 (by decide) ?_
        refine r_zret dX3_isName_79 rfl rfl ?_
        exact ⟨rfl, rfl⟩
      · by_cases w2 : wd B k = kwL 2
        · rw [b2i_f (fun q : isNm B k => q.2.2.2.1 w2)]
          refine r_aload_0 dX3_isName_0 ?_
          refine r_getI dX3_isName_1 fl_X3_42 rfl ?_
          rw [m1]
          refine r_iconst (v := 1) dX3_isName_4 (by decide) ?_
          refine r_icmp_ne 78 dX3_isName_5 (by decide) (fun c_5 => by exact absurd (by rw [h1]; rfl) c_5) (fun c_5 => ?_)
          refine r_aload_0 dX3_isName_8 ?_
          refine r_getL dX3_isName_9 fl_X3_88 rfl ?_
          rw [mw]
          refine r_ldc2 dX3_isName_12 ks_X3_61 ?_
          refine r_lif_eq 78 dX3_isName_15 dX3_isName_16 (by decide) (fun c_15 => by exact absurd ((wk (i := 0) (by decide) kc0).mp c_15) w0) (fun c_15 => ?_)
          refine r_aload_0 dX3_isName_19 ?_
          refine r_getL dX3_isName_20 fl_X3_88 rfl ?_
          rw [mw]
          refine r_ldc2 dX3_isName_23 ks_X3_91 ?_
          refine r_lif_eq 78 dX3_isName_26 dX3_isName_27 (by decide) (fun c_26 => by exact absurd ((wk (i := 1) (by decide) kc1).mp c_26) w1) (fun c_26 => ?_)
          refine r_aload_0 dX3_isName_30 ?_
          refine r_getL dX3_isName_31 fl_X3_88 rfl ?_
          rw [mw]
          refine r_ldc2 dX3_isName_34 ks_X3_108 ?_
          refine r_lif_eq 78 dX3_isName_37 dX3_isName_38 (by decide) (fun c_37 => ?_) (fun c_37 => by exact absurd ((wk (i := 2) (by decide) kc2).mpr w2) c_37)
          refine r_iconst (v := 0) dX3_isName_78 (by decide) ?_
          refine r_zret dX3_isName_79 rfl rfl ?_
          exact ⟨rfl, rfl⟩
        · by_cases w3 : wd B k = kwL 3
          · rw [b2i_f (fun q : isNm B k => q.2.2.2.2.1 w3)]
            refine r_aload_0 dX3_isName_0 ?_
            refine r_getI dX3_isName_1 fl_X3_42 rfl ?_
            rw [m1]
            refine r_iconst (v := 1) dX3_isName_4 (by decide) ?_
            refine r_icmp_ne 78 dX3_isName_5 (by decide) (fun c_5 => by exact absurd (by rw [h1]; rfl) c_5) (fun c_5 => ?_)
            refine r_aload_0 dX3_isName_8 ?_
            refine r_getL dX3_isName_9 fl_X3_88 rfl ?_
            rw [mw]
            refine r_ldc2 dX3_isName_12 ks_X3_61 ?_
            refine r_lif_eq 78 dX3_isName_15 dX3_isName_16 (by decide) (fun c_15 => by exact absurd ((wk (i := 0) (by decide) kc0).mp c_15) w0) (fun c_15 => ?_)
            refine r_aload_0 dX3_isName_19 ?_
            refine r_getL dX3_isName_20 fl_X3_88 rfl ?_
            rw [mw]
            refine r_ldc2 dX3_isName_23 ks_X3_91 ?_
            refine r_lif_eq 78 dX3_isName_26 dX3_isName_27 (by decide) (fun c_26 => by exact absurd ((wk (i := 1) (by decide) kc1).mp c_26) w1) (fun c_26 => ?_)
            refine r_aload_0 dX3_isName_30 ?_
            refine r_getL dX3_isName_31 fl_X3_88 rfl ?_
            rw [mw]
            refine r_ldc2 dX3_isName_34 ks_X3_108 ?_
            refine r_lif_eq 78 dX3_isName_37 dX3_isName_38 (by decide) (fun c_37 => by exact absurd ((wk (i := 2) (by decide) kc2).mp c_37) w2) (fun c_37 => ?_)
            refine r_aload_0 dX3_isName_41 ?_
            refine r_getL dX3_isName_42 fl_X3_88 rfl ?_
            rw [mw]
            refine r_ldc2 dX3_isName_45 ks_X3_96 ?_
            refine r_lif_eq 78 dX3_isName_48 dX3_isName_49 (by decide) (fun c_48 => ?_) (fun c_48 => by exact absurd ((wk (i := 3) (by decide) kc3).mpr w3) c_48)
            refine r_iconst (v := 0) dX3_isName_78 (by decide) ?_
            refine r_zret dX3_isName_79 rfl rfl ?_
            exact ⟨rfl, rfl⟩
          · by_cases w4 : wd B k = kwL 4
            · rw [b2i_f (fun q : isNm B k => q.2.2.2.2.2.1 w4)]
              refine r_aload_0 dX3_isName_0 ?_
              refine r_getI dX3_isName_1 fl_X3_42 rfl ?_
              rw [m1]
              refine r_iconst (v := 1) dX3_isName_4 (by decide) ?_
              refine r_icmp_ne 78 dX3_isName_5 (by decide) (fun c_5 => by exact absurd (by rw [h1]; rfl) c_5) (fun c_5 => ?_)
              refine r_aload_0 dX3_isName_8 ?_
              refine r_getL dX3_isName_9 fl_X3_88 rfl ?_
              rw [mw]
              refine r_ldc2 dX3_isName_12 ks_X3_61 ?_
              refine r_lif_eq 78 dX3_isName_15 dX3_isName_16 (by decide) (fun c_15 => by exact absurd ((wk (i := 0) (by decide) kc0).mp c_15) w0) (fun c_15 => ?_)
              refine r_aload_0 dX3_isName_19 ?_
              refine r_getL dX3_isName_20 fl_X3_88 rfl ?_
              rw [mw]
              refine r_ldc2 dX3_isName_23 ks_X3_91 ?_
              refine r_lif_eq 78 dX3_isName_26 dX3_isName_27 (by decide) (fun c_26 => by exact absurd ((wk (i := 1) (by decide) kc1).mp c_26) w1) (fun c_26 => ?_)
              refine r_aload_0 dX3_isName_30 ?_
              refine r_getL dX3_isName_31 fl_X3_88 rfl ?_
              rw [mw]
              refine r_ldc2 dX3_isName_34 ks_X3_108 ?_
              refine r_lif_eq 78 dX3_isName_37 dX3_isName_38 (by decide) (fun c_37 => by exact absurd ((wk (i := 2) (by decide) kc2).mp c_37) w2) (fun c_37 => ?_)
              refine r_aload_0 dX3_isName_41 ?_
              refine r_getL dX3_isName_42 fl_X3_88 rfl ?_
              rw [mw]
              refine r_ldc2 dX3_isName_45 ks_X3_96 ?_
              refine r_lif_eq 78 dX3_isName_48 dX3_isName_49 (by decide) (fun c_48 => by exact absurd ((wk (i := 3) (by decide) kc3).mp c_48) w3) (fun c_48 => ?_)
              refine r_aload_0 dX3_isName_52 ?_
              refine r_getL dX3_isName_53 fl_X3_88 rfl ?_
              rw [mw]
              refine r_ldc2 dX3_isName_56 ks_X3_101 ?_
              refine r_lif_eq 78 dX3_isName_59 dX3_isName_60 (by decide) (fun c_59 => ?_) (fun c_59 => by exact absurd ((wk (i := 4) (by decide) kc4).mpr w4) c_59)
              refine r_iconst (v := 0) dX3_isName_78 (by decide) ?_
              refine r_zret dX3_isName_79 rfl rfl ?_
              exact ⟨rfl, rfl⟩
            · by_cases w5 : wd B k = kwL 5
              · rw [b2i_f (fun q : isNm B k => q.2.2.2.2.2.2 w5)]
                refine r_aload_0 dX3_isName_0 ?_
                refine r_getI dX3_isName_1 fl_X3_42 rfl ?_
                rw [m1]
                refine r_iconst (v := 1) dX3_isName_4 (by decide) ?_
                refine r_icmp_ne 78 dX3_isName_5 (by decide) (fun c_5 => by exact absurd (by rw [h1]; rfl) c_5) (fun c_5 => ?_)
                refine r_aload_0 dX3_isName_8 ?_
                refine r_getL dX3_isName_9 fl_X3_88 rfl ?_
                rw [mw]
                refine r_ldc2 dX3_isName_12 ks_X3_61 ?_
                refine r_lif_eq 78 dX3_isName_15 dX3_isName_16 (by decide) (fun c_15 => by exact absurd ((wk (i := 0) (by decide) kc0).mp c_15) w0) (fun c_15 => ?_)
                refine r_aload_0 dX3_isName_19 ?_
                refine r_getL dX3_isName_20 fl_X3_88 rfl ?_
                rw [mw]
                refine r_ldc2 dX3_isName_23 ks_X3_91 ?_
                refine r_lif_eq 78 dX3_isName_26 dX3_isName_27 (by decide) (fun c_26 => by exact absurd ((wk (i := 1) (by decide) kc1).mp c_26) w1) (fun c_26 => ?_)
                refine r_aload_0 dX3_isName_30 ?_
                refine r_getL dX3_isName_31 fl_X3_88 rfl ?_
                rw [mw]
                refine r_ldc2 dX3_isName_34 ks_X3_108 ?_
                refine r_lif_eq 78 dX3_isName_37 dX3_isName_38 (by decide) (fun c_37 => by exact absurd ((wk (i := 2) (by decide) kc2).mp c_37) w2) (fun c_37 => ?_)
                refine r_aload_0 dX3_isName_41 ?_
                refine r_getL dX3_isName_42 fl_X3_88 rfl ?_
                rw [mw]
                refine r_ldc2 dX3_isName_45 ks_X3_96 ?_
                refine r_lif_eq 78 dX3_isName_48 dX3_isName_49 (by decide) (fun c_48 => by exact absurd ((wk (i := 3) (by decide) kc3).mp c_48) w3) (fun c_48 => ?_)
                refine r_aload_0 dX3_isName_52 ?_
                refine r_getL dX3_isName_53 fl_X3_88 rfl ?_
                rw [mw]
                refine r_ldc2 dX3_isName_56 ks_X3_101 ?_
                refine r_lif_eq 78 dX3_isName_59 dX3_isName_60 (by decide) (fun c_59 => by exact absurd ((wk (i := 4) (by decide) kc4).mp c_59) w4) (fun c_59 => ?_)
                refine r_aload_0 dX3_isName_63 ?_
                refine r_getL dX3_isName_64 fl_X3_88 rfl ?_
                rw [mw]
                refine r_ldc2 dX3_isName_67 ks_X3_103 ?_
                refine r_lif_eq 78 dX3_isName_70 dX3_isName_71 (by decide) (fun c_70 => ?_) (fun c_70 => by exact absurd ((wk (i := 5) (by decide) kc5).mpr w5) c_70)
                refine r_iconst (v := 0) dX3_isName_78 (by decide) ?_
                refine r_zret dX3_isName_79 rfl rfl ?_
                exact ⟨rfl, rfl⟩
              · rw [b2i_t (show isNm B k from ⟨h1, w0, w1, w2, w3, w4, w5⟩)]
                refine r_aload_0 dX3_isName_0 ?_
                refine r_getI dX3_isName_1 fl_X3_42 rfl ?_
                rw [m1]
                refine r_iconst (v := 1) dX3_isName_4 (by decide) ?_
                refine r_icmp_ne 78 dX3_isName_5 (by decide) (fun c_5 => by exact absurd (by rw [h1]; rfl) c_5) (fun c_5 => ?_)
                refine r_aload_0 dX3_isName_8 ?_
                refine r_getL dX3_isName_9 fl_X3_88 rfl ?_
                rw [mw]
                refine r_ldc2 dX3_isName_12 ks_X3_61 ?_
                refine r_lif_eq 78 dX3_isName_15 dX3_isName_16 (by decide) (fun c_15 => by exact absurd ((wk (i := 0) (by decide) kc0).mp c_15) w0) (fun c_15 => ?_)
                refine r_aload_0 dX3_isName_19 ?_
                refine r_getL dX3_isName_20 fl_X3_88 rfl ?_
                rw [mw]
                refine r_ldc2 dX3_isName_23 ks_X3_91 ?_
                refine r_lif_eq 78 dX3_isName_26 dX3_isName_27 (by decide) (fun c_26 => by exact absurd ((wk (i := 1) (by decide) kc1).mp c_26) w1) (fun c_26 => ?_)
                refine r_aload_0 dX3_isName_30 ?_
                refine r_getL dX3_isName_31 fl_X3_88 rfl ?_
                rw [mw]
                refine r_ldc2 dX3_isName_34 ks_X3_108 ?_
                refine r_lif_eq 78 dX3_isName_37 dX3_isName_38 (by decide) (fun c_37 => by exact absurd ((wk (i := 2) (by decide) kc2).mp c_37) w2) (fun c_37 => ?_)
                refine r_aload_0 dX3_isName_41 ?_
                refine r_getL dX3_isName_42 fl_X3_88 rfl ?_
                rw [mw]
                refine r_ldc2 dX3_isName_45 ks_X3_96 ?_
                refine r_lif_eq 78 dX3_isName_48 dX3_isName_49 (by decide) (fun c_48 => by exact absurd ((wk (i := 3) (by decide) kc3).mp c_48) w3) (fun c_48 => ?_)
                refine r_aload_0 dX3_isName_52 ?_
                refine r_getL dX3_isName_53 fl_X3_88 rfl ?_
                rw [mw]
                refine r_ldc2 dX3_isName_56 ks_X3_101 ?_
                refine r_lif_eq 78 dX3_isName_59 dX3_isName_60 (by decide) (fun c_59 => by exact absurd ((wk (i := 4) (by decide) kc4).mp c_59) w4) (fun c_59 => ?_)
                refine r_aload_0 dX3_isName_63 ?_
                refine r_getL dX3_isName_64 fl_X3_88 rfl ?_
                rw [mw]
                refine r_ldc2 dX3_isName_67 ks_X3_103 ?_
                refine r_lif_eq 78 dX3_isName_70 dX3_isName_71 (by decide) (fun c_70 => by exact absurd ((wk (i := 5) (by decide) kc5).mp c_70) w5) (fun c_70 => ?_)
                refine r_iconst (v := 1) dX3_isName_74 (by decide) ?_
                refine r_goto 79 dX3_isName_75 (by decide) ?_
                refine r_zret dX3_isName_79 rfl rfl ?_
                exact ⟨rfl, rfl⟩
  · rw [b2i_f (fun q : isNm B k => h1 q.1)]
    refine r_aload_0 dX3_isName_0 ?_
    refine r_getI dX3_isName_1 fl_X3_42 rfl ?_
    rw [m1]
    refine r_iconst (v := 1) dX3_isName_4 (by decide) ?_
    refine r_icmp_ne 78 dX3_isName_5 (by decide) (fun c_5 => ?_) (fun c_5 => by exact absurd (nI_jn (b := 1) (by omega) (by omega) c_5) h1)
    refine r_iconst (v := 0) dX3_isName_78 (by decide) ?_
    refine r_zret dX3_isName_79 rfl rfl ?_
    exact ⟨rfl, rfl⟩

set_option maxRecDepth 100000 in
set_option maxHeartbeats 4000000 in
theorem k_within {h : PH} {n : Nat} {B : Nat → Nat} {k : TK} (ck : CK h B k) (g : TGd n B k) (lo hi : Int32) : ConF mX3_isWholeWithin 2 [.ref 2, .int lo, .int hi] h (some (.int (b2i (wF B k lo hi = 0)))) (if wF B k lo hi = 0 then h else pI h 2 4 (wF B k lo hi)) := by
  have k4 := g.1.2.2.2
  have m1 := ck.1
  refine Con.mk (by decide) ?_
  show RT _ _ 0 [some (.ref 2), some (.int lo), some (.int hi)] [] _ _
  by_cases h1 : k.1 = 2
  · have mw := ck.2.2.2.2 h1
    by_cases hb : lo ≤ wv B k ∧ wv B k ≤ hi
    · have e : wF B k lo hi = 0 := by unfold wF; rw [if_pos h1, if_pos hb]
      rw [b2i_t e, if_pos e]
      refine r_aload_0 dX3_isWholeWithin_0 ?_
      refine r_getI dX3_isWholeWithin_1 fl_X3_42 rfl ?_
      rw [m1]
      refine r_iconst (v := 2) dX3_isWholeWithin_4 (by decide) ?_
      refine r_icmp_eq 14 dX3_isWholeWithin_5 (by decide) (fun c_5 => ?_) (fun c_5 => by exact absurd (by rw [h1]; rfl) c_5)
      refine r_aload_0 dX3_isWholeWithin_14 ?_
      refine r_getI dX3_isWholeWithin_15 fl_X3_74 rfl ?_
      rw [mw]
      refine r_iload_1 dX3_isWholeWithin_18 ?_
      refine r_icmp_lt 30 dX3_isWholeWithin_19 (by decide) (fun c_19 => by exact absurd c_19 (nlt_of_ge hb.1)) (fun c_19 => ?_)
      refine r_aload_0 dX3_isWholeWithin_22 ?_
      refine r_getI dX3_isWholeWithin_23 fl_X3_74 rfl ?_
      rw [mw]
      refine r_iload_2 dX3_isWholeWithin_26 ?_
      refine r_icmp_le 38 dX3_isWholeWithin_27 (by decide) (fun c_27 => ?_) (fun c_27 => by exact absurd hb.2 c_27)
      refine r_iconst (v := 1) dX3_isWholeWithin_38 (by decide) ?_
      refine r_goto 43 dX3_isWholeWithin_39 (by decide) ?_
      refine r_zret dX3_isWholeWithin_43 rfl rfl ?_
      exact ⟨rfl, rfl⟩
    · have e : wF B k lo hi = 2 := by unfold wF; rw [if_pos h1, if_neg hb]
      rw [e, b2i_f (by decide), if_neg (by decide)]
      refine r_aload_0 dX3_isWholeWithin_0 ?_
      refine r_getI dX3_isWholeWithin_1 fl_X3_42 rfl ?_
      rw [m1]
      refine r_iconst (v := 2) dX3_isWholeWithin_4 (by decide) ?_
      refine r_icmp_eq 14 dX3_isWholeWithin_5 (by decide) (fun c_5 => ?_) (fun c_5 => by exact absurd (by rw [h1]; rfl) c_5)
      refine r_aload_0 dX3_isWholeWithin_14 ?_
      refine r_getI dX3_isWholeWithin_15 fl_X3_74 rfl ?_
      rw [mw]
      refine r_iload_1 dX3_isWholeWithin_18 ?_
      refine r_icmp_lt 30 dX3_isWholeWithin_19 (by decide) (fun c_19 => ?_) (fun c_19 => ?_)
      · refine r_aload_0 dX3_isWholeWithin_30 ?_
        refine r_iconst (v := 2) dX3_isWholeWithin_31 (by decide) ?_
        refine r_cV1 mX3_blame dX3_isWholeWithin_32 ml_X3_51 mo_X3_blame rfl (k_blame h 2) (by decide) ?_
        refine r_if_eq 42 dX3_isWholeWithin_35 (by decide) (fun c_35 => ?_) (fun c_35 => by exact absurd rfl c_35)
        refine r_iconst (v := 0) dX3_isWholeWithin_42 (by decide) ?_
        refine r_zret dX3_isWholeWithin_43 rfl rfl ?_
        exact ⟨rfl, rfl⟩
      · refine r_aload_0 dX3_isWholeWithin_22 ?_
        refine r_getI dX3_isWholeWithin_23 fl_X3_74 rfl ?_
        rw [mw]
        refine r_iload_2 dX3_isWholeWithin_26 ?_
        refine r_icmp_le 38 dX3_isWholeWithin_27 (by decide) (fun c_27 => ?_) (fun c_27 => ?_)
        · exact absurd ⟨ge_of_nlt c_19, c_27⟩ hb
        · refine r_aload_0 dX3_isWholeWithin_30 ?_
          refine r_iconst (v := 2) dX3_isWholeWithin_31 (by decide) ?_
          refine r_cV1 mX3_blame dX3_isWholeWithin_32 ml_X3_51 mo_X3_blame rfl (k_blame h 2) (by decide) ?_
          refine r_if_eq 42 dX3_isWholeWithin_35 (by decide) (fun c_35 => ?_) (fun c_35 => by exact absurd rfl c_35)
          refine r_iconst (v := 0) dX3_isWholeWithin_42 (by decide) ?_
          refine r_zret dX3_isWholeWithin_43 rfl rfl ?_
          exact ⟨rfl, rfl⟩
  · have e : wF B k lo hi = 1 := by unfold wF; rw [if_neg h1]
    rw [e, b2i_f (by decide), if_neg (by decide)]
    refine r_aload_0 dX3_isWholeWithin_0 ?_
    refine r_getI dX3_isWholeWithin_1 fl_X3_42 rfl ?_
    rw [m1]
    refine r_iconst (v := 2) dX3_isWholeWithin_4 (by decide) ?_
    refine r_icmp_eq 14 dX3_isWholeWithin_5 (by decide) (fun c_5 => by exact absurd (nI_jn (b := 2) (by omega) (by omega) c_5) h1) (fun c_5 => ?_)
    refine r_aload_0 dX3_isWholeWithin_8 ?_
    refine r_iconst (v := 1) dX3_isWholeWithin_9 (by decide) ?_
    refine r_cV1 mX3_blame dX3_isWholeWithin_10 ml_X3_51 mo_X3_blame rfl (k_blame h 1) (by decide) ?_
    refine r_zret dX3_isWholeWithin_13 rfl rfl ?_
    exact ⟨rfl, rfl⟩

set_option maxRecDepth 100000 in
set_option maxHeartbeats 4000000 in
theorem called_loop3 {h : PH} {t : NT} (hJ : NT.J t ≤ 9) {nm : NMS} (k0 : h.1 3 0 = nI (NT.J t)) (nc : NamC h 3 t nm) (no : nmOK t nm) {L : List Nat} {c : Int64} (hc : ∀ j, j < NT.J t → (lN (packN (nm j)) = c ↔ nm j = L)) : ∀ (m j : Nat), j + m = NT.J t → RT mX2_jointCalled 1 2 [some (.ref 3), some (.long c), none, some (.int (nI j))] [] h (fun a h' => a = some (.int (oI (fnd (fun j => decide (nm j = L)) j m))) ∧ h' = h) := by
  intro m
  induction m with
  | zero =>
    intro j hj
    refine r_iload_3 dX2_jointCalled_2 ?_
    refine r_aload_0 dX2_jointCalled_3 ?_
    refine r_getI dX2_jointCalled_4 fl_X2_40 rfl ?_
    rw [k0]
    refine r_icmpN_ge 29 dX2_jointCalled_7 (by decide) (by omega) (by omega) (fun c_7 => ?_) (fun c_7 => by omega)
    refine r_iconst (v := (-1)) dX2_jointCalled_29 (by decide) ?_
    refine r_iret dX2_jointCalled_30 rfl ?_
    exact ⟨rfl, rfl⟩
  | succ m ih =>
    intro j hj
    rw [fnd_s]
    by_cases q : nm j = L
    · rw [if_pos (decide_eq_true q)]
      refine r_iload_3 dX2_jointCalled_2 ?_
      refine r_aload_0 dX2_jointCalled_3 ?_
      refine r_getI dX2_jointCalled_4 fl_X2_40 rfl ?_
      rw [k0]
      refine r_icmpN_ge 29 dX2_jointCalled_7 (by decide) (by omega) (by omega) (fun c_7 => by omega) (fun c_7 => ?_)
      refine r_aload_0 dX2_jointCalled_10 ?_
      refine r_getR (a := 4) dX2_jointCalled_11 fl_X2_9 rfl rfl ?_
      refine r_iload_3 dX2_jointCalled_14 ?_
      refine r_laldN dX2_jointCalled_15 rfl (by omega) ?_
      rw [show h.2 4 j = lN (packN (nm j)) from nc j (by omega)]
      refine r_lload_1 dX2_jointCalled_16 ?_
      refine r_lif_ne 23 dX2_jointCalled_17 dX2_jointCalled_18 (by decide) (fun c_17 => by exact absurd ((hc j (by omega)).mpr q) c_17) (fun c_17 => ?_)
      refine r_iload_3 dX2_jointCalled_21 ?_
      refine r_iret dX2_jointCalled_22 rfl ?_
      exact ⟨rfl, rfl⟩
    · rw [if_neg (by rw [decide_eq_true_iff]; exact q)]
      refine r_iload_3 dX2_jointCalled_2 ?_
      refine r_aload_0 dX2_jointCalled_3 ?_
      refine r_getI dX2_jointCalled_4 fl_X2_40 rfl ?_
      rw [k0]
      refine r_icmpN_ge 29 dX2_jointCalled_7 (by decide) (by omega) (by omega) (fun c_7 => by omega) (fun c_7 => ?_)
      refine r_aload_0 dX2_jointCalled_10 ?_
      refine r_getR (a := 4) dX2_jointCalled_11 fl_X2_9 rfl rfl ?_
      refine r_iload_3 dX2_jointCalled_14 ?_
      refine r_laldN dX2_jointCalled_15 rfl (by omega) ?_
      rw [show h.2 4 j = lN (packN (nm j)) from nc j (by omega)]
      refine r_lload_1 dX2_jointCalled_16 ?_
      refine r_lif_ne 23 dX2_jointCalled_17 dX2_jointCalled_18 (by decide) (fun c_17 => ?_) (fun c_17 => by exact absurd ((hc j (by omega)).mp c_17) q)
      refine r_iincN_3 dX2_jointCalled_23 ?_
      refine r_goto 2 dX2_jointCalled_26 (by decide) ?_
      exact ih (j + 1) (by omega)
set_option maxRecDepth 100000 in
set_option maxHeartbeats 4000000 in
theorem k_called3 {h : PH} {t : NT} (hJ : NT.J t ≤ 9) {nm : NMS} (k0 : h.1 3 0 = nI (NT.J t)) (nc : NamC h 3 t nm) (no : nmOK t nm) {L : List Nat} {c : Int64} (hc : ∀ j, j < NT.J t → (lN (packN (nm j)) = c ↔ nm j = L)) : ConF mX2_jointCalled 1 [.ref 3, .long c] h (some (.int (oI (jH nm (NT.J t) L)))) h := by
  refine Con.mk (by decide) ?_
  show RT _ _ 0 [some (.ref 3), some (.long c), none, none] [] _ _
  refine r_iconst (v := nI 0) dX2_jointCalled_0 (by decide) ?_
  refine r_istore_3 dX2_jointCalled_1 ?_
  exact called_loop3 hJ k0 nc no hc (NT.J t) 0 (by omega)

set_option maxRecDepth 100000 in
set_option maxHeartbeats 4000000 in
theorem called_loop15 {h : PH} {t : NT} (hJ : NT.J t ≤ 9) {nm : NMS} (k0 : h.1 15 0 = nI (NT.J t)) (nc : NamC h 15 t nm) (no : nmOK t nm) {L : List Nat} {c : Int64} (hc : ∀ j, j < NT.J t → (lN (packN (nm j)) = c ↔ nm j = L)) : ∀ (m j : Nat), j + m = NT.J t → RT mX2_jointCalled 1 2 [some (.ref 15), some (.long c), none, some (.int (nI j))] [] h (fun a h' => a = some (.int (oI (fnd (fun j => decide (nm j = L)) j m))) ∧ h' = h) := by
  intro m
  induction m with
  | zero =>
    intro j hj
    refine r_iload_3 dX2_jointCalled_2 ?_
    refine r_aload_0 dX2_jointCalled_3 ?_
    refine r_getI dX2_jointCalled_4 fl_X2_40 rfl ?_
    rw [k0]
    refine r_icmpN_ge 29 dX2_jointCalled_7 (by decide) (by omega) (by omega) (fun c_7 => ?_) (fun c_7 => by omega)
    refine r_iconst (v := (-1)) dX2_jointCalled_29 (by decide) ?_
    refine r_iret dX2_jointCalled_30 rfl ?_
    exact ⟨rfl, rfl⟩
  | succ m ih =>
    intro j hj
    rw [fnd_s]
    by_cases q : nm j = L
    · rw [if_pos (decide_eq_true q)]
      refine r_iload_3 dX2_jointCalled_2 ?_
      refine r_aload_0 dX2_jointCalled_3 ?_
      refine r_getI dX2_jointCalled_4 fl_X2_40 rfl ?_
      rw [k0]
      refine r_icmpN_ge 29 dX2_jointCalled_7 (by decide) (by omega) (by omega) (fun c_7 => by omega) (fun c_7 => ?_)
      refine r_aload_0 dX2_jointCalled_10 ?_
      refine r_getR (a := 16) dX2_jointCalled_11 fl_X2_9 rfl rfl ?_
      refine r_iload_3 dX2_jointCalled_14 ?_
      refine r_laldN dX2_jointCalled_15 rfl (by omega) ?_
      rw [show h.2 16 j = lN (packN (nm j)) from nc j (by omega)]
      refine r_lload_1 dX2_jointCalled_16 ?_
      refine r_lif_ne 23 dX2_jointCalled_17 dX2_jointCalled_18 (by decide) (fun c_17 => by exact absurd ((hc j (by omega)).mpr q) c_17) (fun c_17 => ?_)
      refine r_iload_3 dX2_jointCalled_21 ?_
      refine r_iret dX2_jointCalled_22 rfl ?_
      exact ⟨rfl, rfl⟩
    · rw [if_neg (by rw [decide_eq_true_iff]; exact q)]
      refine r_iload_3 dX2_jointCalled_2 ?_
      refine r_aload_0 dX2_jointCalled_3 ?_
      refine r_getI dX2_jointCalled_4 fl_X2_40 rfl ?_
      rw [k0]
      refine r_icmpN_ge 29 dX2_jointCalled_7 (by decide) (by omega) (by omega) (fun c_7 => by omega) (fun c_7 => ?_)
      refine r_aload_0 dX2_jointCalled_10 ?_
      refine r_getR (a := 16) dX2_jointCalled_11 fl_X2_9 rfl rfl ?_
      refine r_iload_3 dX2_jointCalled_14 ?_
      refine r_laldN dX2_jointCalled_15 rfl (by omega) ?_
      rw [show h.2 16 j = lN (packN (nm j)) from nc j (by omega)]
      refine r_lload_1 dX2_jointCalled_16 ?_
      refine r_lif_ne 23 dX2_jointCalled_17 dX2_jointCalled_18 (by decide) (fun c_17 => ?_) (fun c_17 => by exact absurd ((hc j (by omega)).mp c_17) q)
      refine r_iincN_3 dX2_jointCalled_23 ?_
      refine r_goto 2 dX2_jointCalled_26 (by decide) ?_
      exact ih (j + 1) (by omega)
set_option maxRecDepth 100000 in
set_option maxHeartbeats 4000000 in
theorem k_called15 {h : PH} {t : NT} (hJ : NT.J t ≤ 9) {nm : NMS} (k0 : h.1 15 0 = nI (NT.J t)) (nc : NamC h 15 t nm) (no : nmOK t nm) {L : List Nat} {c : Int64} (hc : ∀ j, j < NT.J t → (lN (packN (nm j)) = c ↔ nm j = L)) : ConF mX2_jointCalled 1 [.ref 15, .long c] h (some (.int (oI (jH nm (NT.J t) L)))) h := by
  refine Con.mk (by decide) ?_
  show RT _ _ 0 [some (.ref 15), some (.long c), none, none] [] _ _
  refine r_iconst (v := nI 0) dX2_jointCalled_0 (by decide) ?_
  refine r_istore_3 dX2_jointCalled_1 ?_
  exact called_loop15 hJ k0 nc no hc (NT.J t) 0 (by omega)

theorem nm_eq {t : NT} {nm : NMS} (no : nmOK t nm) {L : List Nat} (hL : lets L) (l6 : L.length ≤ 6) : ∀ j, j < NT.J t → (lN (packN (nm j)) = lN (packN L) ↔ nm j = L) := fun j hj => word_eq (no j hj).2.2 hL (no j hj).2.1 l6
set_option maxRecDepth 100000 in
set_option maxHeartbeats 4000000 in
theorem k_tw {h : PH} {n : Nat} {B : Nat → Nat} (ok : OKB n B) {k : TK} {t : NT} {nm : NMS} (c : CRd h n B k t nm) (g : TGd n B k) {i : Nat} (hi : i < 6) {x : Int64} (hx : lN (packN (kwL i)) = x) : Con mX3_takeWord 4 [.ref 2, .long x] h (fun a h' => a = some (.int (b2i (k.1 = 1 ∧ wd B k = kwL i))) ∧ ((k.1 = 1 ∧ wd B k = kwL i → CRd h' n B (nx B n k) t nm ∧ F2 h h') ∧ (¬ (k.1 = 1 ∧ wd B k = kwL i) → h' = pI h 2 4 1))) := by
  have k4 := g.1.2.2.2
  have m1 := c.2.1.1
  refine Con.mk (by decide) ?_
  show RT _ _ 0 [some (.ref 2), some (.long x), none] [] _ _
  by_cases h1 : k.1 = 1
  · have mw := c.2.1.2.2.2.1 h1
    by_cases h2 : wd B k = kwL i
    · refine r_aload_0 dX3_takeWord_0 ?_
      refine r_getI dX3_takeWord_1 fl_X3_42 rfl ?_
      rw [m1]
      refine r_iconst (v := 1) dX3_takeWord_4 (by decide) ?_
      refine r_icmp_ne 17 dX3_takeWord_5 (by decide) (fun c_5 => by exact absurd (by rw [h1]; rfl) c_5) (fun c_5 => ?_)
      refine r_aload_0 dX3_takeWord_8 ?_
      refine r_getL dX3_takeWord_9 fl_X3_88 rfl ?_
      rw [mw]
      refine r_lload_1 dX3_takeWord_12 ?_
      refine r_lif_eq 23 dX3_takeWord_13 dX3_takeWord_14 (by decide) (fun c_13 => ?_) (fun c_13 => by exact absurd ((wk_i g h1 hi hx).mpr h2) c_13)
      refine r_aload_0 dX3_takeWord_23 ?_
      refine r_cWQ0 mX3_readToken dX3_takeWord_24 ml_X3_35 mo_X3_readToken rfl (k_readToken ok c.1 g.1.2.1 c.2.1.2.2.1) (by decide) (fun h2_ p2 => ?_)
      have c2 := c.tok p2
      refine r_iconst (v := 1) dX3_takeWord_27 (by decide) ?_
      refine r_zret dX3_takeWord_28 rfl rfl ?_
      exact ⟨congrArg (fun x => some (Value.int x)) (b2i_t ⟨h1, h2⟩).symm, fun _ => ⟨c2, p2.2⟩, fun q => absurd ⟨h1, h2⟩ q⟩
    · refine r_aload_0 dX3_takeWord_0 ?_
      refine r_getI dX3_takeWord_1 fl_X3_42 rfl ?_
      rw [m1]
      refine r_iconst (v := 1) dX3_takeWord_4 (by decide) ?_
      refine r_icmp_ne 17 dX3_takeWord_5 (by decide) (fun c_5 => by exact absurd (by rw [h1]; rfl) c_5) (fun c_5 => ?_)
      refine r_aload_0 dX3_takeWord_8 ?_
      refine r_getL dX3_takeWord_9 fl_X3_88 rfl ?_
      rw [mw]
      refine r_lload_1 dX3_takeWord_12 ?_
      refine r_lif_eq 23 dX3_takeWord_13 dX3_takeWord_14 (by decide) (fun c_13 => by exact absurd ((wk_i g h1 hi hx).mp c_13) h2) (fun c_13 => ?_)
      refine r_aload_0 dX3_takeWord_17 ?_
      refine r_iconst (v := 1) dX3_takeWord_18 (by decide) ?_
      refine r_cV1 mX3_blame dX3_takeWord_19 ml_X3_51 mo_X3_blame rfl (k_blame h 1) (by decide) ?_
      refine r_zret dX3_takeWord_22 rfl rfl ?_
      exact ⟨congrArg (fun x => some (Value.int x)) (b2i_f (fun q => h2 q.2)).symm, fun q => absurd q.2 h2, fun _ => rfl⟩
  · refine r_aload_0 dX3_takeWord_0 ?_
    refine r_getI dX3_takeWord_1 fl_X3_42 rfl ?_
    rw [m1]
    refine r_iconst (v := 1) dX3_takeWord_4 (by decide) ?_
    refine r_icmp_ne 17 dX3_takeWord_5 (by decide) (fun c_5 => ?_) (fun c_5 => by exact absurd (nI_jn (b := 1) (by omega) (by omega) c_5) h1)
    refine r_aload_0 dX3_takeWord_17 ?_
    refine r_iconst (v := 1) dX3_takeWord_18 (by decide) ?_
    refine r_cV1 mX3_blame dX3_takeWord_19 ml_X3_51 mo_X3_blame rfl (k_blame h 1) (by decide) ?_
    refine r_zret dX3_takeWord_22 rfl rfl ?_
    exact ⟨congrArg (fun x => some (Value.int x)) (b2i_f (fun q => h1 q.1)).symm, fun q => absurd q.1 h1, fun _ => rfl⟩

theorem CRd.p9 {h : PH} {n : Nat} {B : Nat → Nat} {k : TK} {t : NT} {nm : NMS} (c : CRd h n B k t nm) (x : Int64) : CRd (pL h 2 9 x) n B k t nm := by
  obtain ⟨c1, c2, c3, c4, c5⟩ := c
  have f : Fr (fun y => y = 2) h (pL h 2 9 x) := Fr.rf.pL rfl
  refine ⟨c1, ⟨c2.1, c2.2.1, c2.2.2.1, fun q => (pL_ne 2 7 (Or.inr (by decide))).trans (c2.2.2.2.1 q), c2.2.2.2.2⟩, c3.fr f (fun j hj q => by omega), fun j hj => ?_, c5⟩
  rw [(f 4 (by decide)).2]; exact c4 j hj
set_option maxRecDepth 100000 in
set_option maxHeartbeats 4000000 in
theorem k_new {h : PH} {n : Nat} {B : Nat → Nat} (ok : OKB n B) {k : TK} {t : NT} {nm : NMS} (c : CRd h n B k t nm) (g : TGd n B k) (hJ : NT.J t ≤ 9) (no : nmOK t nm) : Con mX3_takeNewName 4 [.ref 2] h (fun a h' => a = some (.int (b2i (nF B k t nm = 0))) ∧ ((nF B k t nm = 0 → CRd h' n B (nx B n k) t nm ∧ h'.2 2 9 = lN (packN (wd B k)) ∧ FCr h h') ∧ (nF B k t nm ≠ 0 → h' = pI h 2 4 (nF B k t nm)))) := by
  have k0 : h.1 3 0 = nI (NT.J t) := c.2.2.1.1
  refine Con.mk (by decide) ?_
  show RT _ _ 0 [some (.ref 2)] [] _ _
  by_cases h1 : isNm B k
  · have mw := c.2.1.2.2.2.1 h1.1
    have wo := wd_ok g h1
    have cl := k_called3 hJ k0 c.2.2.2.1 no (nm_eq no wo.2.2 wo.2.1)
    cases hj : jH nm (NT.J t) (wd B k) with
    | none =>
      have e : nF B k t nm = 0 := by unfold nF; rw [if_pos h1, if_pos hj]
      rw [hj] at cl
      have c1 := c.p9 (lN (packN (wd B k)))
      refine r_aload_0 dX3_takeNewName_0 ?_
      refine r_cV0 mX3_isName dX3_takeNewName_1 ml_X3_134 mo_X3_isName rfl (k_isNm c.2.1 g) (by decide) ?_
      rw [b2i_t h1]
      refine r_if_ne 13 dX3_takeNewName_4 (by decide) (fun c_4 => ?_) (fun c_4 => by exact absurd c_4 (by decide))
      refine r_aload_0 dX3_takeNewName_13 ?_
      refine r_getR (a := 3) dX3_takeNewName_14 fl_X3_12 rfl rfl ?_
      refine r_aload_0 dX3_takeNewName_17 ?_
      refine r_getL dX3_takeNewName_18 fl_X3_88 rfl ?_
      rw [mw]
      refine r_cV1 mX2_jointCalled dX3_takeNewName_21 ml_X3_137 mo_X2_jointCalled rfl cl (by decide) ?_
      refine r_iconst (v := (-1)) dX3_takeNewName_24 (by decide) ?_
      refine r_icmp_eq 34 dX3_takeNewName_25 (by decide) (fun c_25 => ?_) (fun c_25 => by exact absurd rfl c_25)
      refine r_aload_0 dX3_takeNewName_34 ?_
      refine r_aload_0 dX3_takeNewName_35 ?_
      refine r_getL dX3_takeNewName_36 fl_X3_88 rfl ?_
      rw [mw]
      refine r_putL dX3_takeNewName_39 fl_X3_80 rfl rfl rfl ?_
      refine r_aload_0 dX3_takeNewName_42 ?_
      refine r_cWQ0 mX3_readToken dX3_takeNewName_43 ml_X3_35 mo_X3_readToken rfl (k_readToken ok c1.1 g.1.2.1 c1.2.1.2.2.1) (by decide) (fun h2_ p2 => ?_)
      have c2 := c1.tok p2
      refine r_iconst (v := 1) dX3_takeNewName_46 (by decide) ?_
      refine r_zret dX3_takeNewName_47 rfl rfl ?_
      exact ⟨congrArg (fun x => some (Value.int x)) (b2i_t e).symm, fun _ => ⟨c2, p2.2.2.1.trans pL_eq, (Fr.rf.pL ⟨by omega, by omega⟩ : FCr h (pL h 2 9 (lN (packN (wd B k))))).tr p2.2.fc⟩, fun q => absurd e q⟩
    | some j =>
      have hj9 := jH_lt hj
      have e : nF B k t nm = 3 := by unfold nF; rw [if_pos h1, if_neg (by rw [hj]; exact fun q => by cases q)]
      rw [hj] at cl
      rw [e]
      refine r_aload_0 dX3_takeNewName_0 ?_
      refine r_cV0 mX3_isName dX3_takeNewName_1 ml_X3_134 mo_X3_isName rfl (k_isNm c.2.1 g) (by decide) ?_
      rw [b2i_t h1]
      refine r_if_ne 13 dX3_takeNewName_4 (by decide) (fun c_4 => ?_) (fun c_4 => by exact absurd c_4 (by decide))
      refine r_aload_0 dX3_takeNewName_13 ?_
      refine r_getR (a := 3) dX3_takeNewName_14 fl_X3_12 rfl rfl ?_
      refine r_aload_0 dX3_takeNewName_17 ?_
      refine r_getL dX3_takeNewName_18 fl_X3_88 rfl ?_
      rw [mw]
      refine r_cV1 mX2_jointCalled dX3_takeNewName_21 ml_X3_137 mo_X2_jointCalled rfl cl (by decide) ?_
      refine r_iconst (v := (-1)) dX3_takeNewName_24 (by decide) ?_
      refine r_icmp_eq 34 dX3_takeNewName_25 (by decide) (fun c_25 => by exact absurd c_25 (nI_ne_m1 (by omega))) (fun c_25 => ?_)
      refine r_aload_0 dX3_takeNewName_28 ?_
      refine r_iconst (v := 3) dX3_takeNewName_29 (by decide) ?_
      refine r_cV1 mX3_blame dX3_takeNewName_30 ml_X3_51 mo_X3_blame rfl (k_blame h 3) (by decide) ?_
      refine r_zret dX3_takeNewName_33 rfl rfl ?_
      exact ⟨congrArg (fun x => some (Value.int x)) (b2i_f (by decide)).symm, fun q => absurd q (by decide), fun _ => rfl⟩
  · have e : nF B k t nm = 1 := by unfold nF; rw [if_neg h1]
    rw [e]
    refine r_aload_0 dX3_takeNewName_0 ?_
    refine r_cV0 mX3_isName dX3_takeNewName_1 ml_X3_134 mo_X3_isName rfl (k_isNm c.2.1 g) (by decide) ?_
    rw [b2i_f h1]
    refine r_if_ne 13 dX3_takeNewName_4 (by decide) (fun c_4 => by exact absurd rfl c_4) (fun c_4 => ?_)
    refine r_aload_0 dX3_takeNewName_7 ?_
    refine r_iconst (v := 1) dX3_takeNewName_8 (by decide) ?_
    refine r_cV1 mX3_blame dX3_takeNewName_9 ml_X3_51 mo_X3_blame rfl (k_blame h 1) (by decide) ?_
    refine r_zret dX3_takeNewName_12 rfl rfl ?_
    exact ⟨congrArg (fun x => some (Value.int x)) (b2i_f (by decide)).symm, fun q => absurd q (by decide), fun _ => rfl⟩

set_option maxRecDepth 100000 in
set_option maxHeartbeats 4000000 in
theorem k_jah {h : PH} {n : Nat} {B : Nat → Nat} {k : TK} {t : NT} {nm : NMS} (c : CRd h n B k t nm) (g : TGd n B k) (hJ : NT.J t ≤ 9) (no : nmOK t nm) : ConF mX3_jointAtHand 2 [.ref 2] h (some (.int (oI (jA B k t nm)))) (if jA B k t nm = none then pI h 2 4 (jFl B k) else h) := by
  have k0 : h.1 3 0 = nI (NT.J t) := c.2.2.1.1
  refine Con.mk (by decide) ?_
  show RT _ _ 0 [some (.ref 2), none] [] _ _
  by_cases h1 : isNm B k
  · have mw := c.2.1.2.2.2.1 h1.1
    have wo := wd_ok g h1
    have cl := k_called3 hJ k0 c.2.2.2.1 no (nm_eq no wo.2.2 wo.2.1)
    have ea : jA B k t nm = jH nm (NT.J t) (wd B k) := if_pos h1
    have ef : jFl B k = 3 := if_pos h1
    rw [ea, ef]
    cases hj : jH nm (NT.J t) (wd B k) with
    | none =>
      rw [hj] at cl
      rw [if_pos rfl]
      refine r_aload_0 dX3_jointAtHand_0 ?_
      refine r_cV0 mX3_isName dX3_jointAtHand_1 ml_X3_134 mo_X3_isName rfl (k_isNm c.2.1 g) (by decide) ?_
      rw [b2i_t h1]
      refine r_if_eq 21 dX3_jointAtHand_4 (by decide) (fun c_4 => by exact absurd c_4 (by decide)) (fun c_4 => ?_)
      refine r_aload_0 dX3_jointAtHand_7 ?_
      refine r_getR (a := 3) dX3_jointAtHand_8 fl_X3_12 rfl rfl ?_
      refine r_aload_0 dX3_jointAtHand_11 ?_
      refine r_getL dX3_jointAtHand_12 fl_X3_88 rfl ?_
      rw [mw]
      refine r_cV1 mX2_jointCalled dX3_jointAtHand_15 ml_X3_137 mo_X2_jointCalled rfl cl (by decide) ?_
      refine r_goto 22 dX3_jointAtHand_18 (by decide) ?_
      refine r_istore_1 dX3_jointAtHand_22 ?_
      refine r_iload_1 dX3_jointAtHand_23 ?_
      refine r_iconst (v := (-1)) dX3_jointAtHand_24 (by decide) ?_
      refine r_icmp_ne 45 dX3_jointAtHand_25 (by decide) (fun c_25 => by exact absurd rfl c_25) (fun c_25 => ?_)
      refine r_aload_0 dX3_jointAtHand_28 ?_
      refine r_aload_0 dX3_jointAtHand_29 ?_
      refine r_cV0 mX3_isName dX3_jointAtHand_30 ml_X3_134 mo_X3_isName rfl (k_isNm c.2.1 g) (by decide) ?_
      rw [b2i_t h1]
      refine r_if_eq 40 dX3_jointAtHand_33 (by decide) (fun c_33 => by exact absurd c_33 (by decide)) (fun c_33 => ?_)
      refine r_iconst (v := 3) dX3_jointAtHand_36 (by decide) ?_
      refine r_goto 41 dX3_jointAtHand_37 (by decide) ?_
      refine r_cV1 mX3_blame dX3_jointAtHand_41 ml_X3_51 mo_X3_blame rfl (k_blame h 3) (by decide) ?_
      refine r_popi dX3_jointAtHand_44 ?_
      refine r_iload_1 dX3_jointAtHand_45 ?_
      refine r_iret dX3_jointAtHand_46 rfl ?_
      exact ⟨rfl, rfl⟩
    | some j =>
      have hj9 := jH_lt hj
      rw [hj] at cl
      rw [if_neg (fun q => by cases q)]
      refine r_aload_0 dX3_jointAtHand_0 ?_
      refine r_cV0 mX3_isName dX3_jointAtHand_1 ml_X3_134 mo_X3_isName rfl (k_isNm c.2.1 g) (by decide) ?_
      rw [b2i_t h1]
      refine r_if_eq 21 dX3_jointAtHand_4 (by decide) (fun c_4 => by exact absurd c_4 (by decide)) (fun c_4 => ?_)
      refine r_aload_0 dX3_jointAtHand_7 ?_
      refine r_getR (a := 3) dX3_jointAtHand_8 fl_X3_12 rfl rfl ?_
      refine r_aload_0 dX3_jointAtHand_11 ?_
      refine r_getL dX3_jointAtHand_12 fl_X3_88 rfl ?_
      rw [mw]
      refine r_cV1 mX2_jointCalled dX3_jointAtHand_15 ml_X3_137 mo_X2_jointCalled rfl cl (by decide) ?_
      refine r_goto 22 dX3_jointAtHand_18 (by decide) ?_
      refine r_istore_1 dX3_jointAtHand_22 ?_
      refine r_iload_1 dX3_jointAtHand_23 ?_
      refine r_iconst (v := (-1)) dX3_jointAtHand_24 (by decide) ?_
      refine r_icmp_ne 45 dX3_jointAtHand_25 (by decide) (fun c_25 => ?_) (fun c_25 => by exact absurd c_25 (nI_ne_m1 (by omega)))
      refine r_iload_1 dX3_jointAtHand_45 ?_
      refine r_iret dX3_jointAtHand_46 rfl ?_
      exact ⟨rfl, rfl⟩
  · have ea : jA B k t nm = none := if_neg h1
    have ef : jFl B k = 1 := if_neg h1
    rw [ea, ef, if_pos rfl]
    refine r_aload_0 dX3_jointAtHand_0 ?_
    refine r_cV0 mX3_isName dX3_jointAtHand_1 ml_X3_134 mo_X3_isName rfl (k_isNm c.2.1 g) (by decide) ?_
    rw [b2i_f h1]
    refine r_if_eq 21 dX3_jointAtHand_4 (by decide) (fun c_4 => ?_) (fun c_4 => by exact absurd rfl c_4)
    refine r_iconst (v := (-1)) dX3_jointAtHand_21 (by decide) ?_
    refine r_istore_1 dX3_jointAtHand_22 ?_
    refine r_iload_1 dX3_jointAtHand_23 ?_
    refine r_iconst (v := (-1)) dX3_jointAtHand_24 (by decide) ?_
    refine r_icmp_ne 45 dX3_jointAtHand_25 (by decide) (fun c_25 => by exact absurd rfl c_25) (fun c_25 => ?_)
    refine r_aload_0 dX3_jointAtHand_28 ?_
    refine r_aload_0 dX3_jointAtHand_29 ?_
    refine r_cV0 mX3_isName dX3_jointAtHand_30 ml_X3_134 mo_X3_isName rfl (k_isNm c.2.1 g) (by decide) ?_
    rw [b2i_f h1]
    refine r_if_eq 40 dX3_jointAtHand_33 (by decide) (fun c_33 => ?_) (fun c_33 => by exact absurd rfl c_33)
    refine r_iconst (v := 1) dX3_jointAtHand_40 (by decide) ?_
    refine r_cV1 mX3_blame dX3_jointAtHand_41 ml_X3_51 mo_X3_blame rfl (k_blame h 1) (by decide) ?_
    refine r_popi dX3_jointAtHand_44 ?_
    refine r_iload_1 dX3_jointAtHand_45 ?_
    refine r_iret dX3_jointAtHand_46 rfl ?_
    exact ⟨rfl, rfl⟩

