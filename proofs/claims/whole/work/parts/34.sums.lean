/-! ===== the class: Waters.ringSum, ringSteep, lessen, nearest ===== -/
theorem drop_gq {L : RG} {j : Nat} (h : j < L.length) : L.drop j = gq L j :: L.drop (j + 1) := by
  rw [List.drop_eq_getElem_cons h]
  unfold gq
  rw [List.getD_eq_getElem?_getD, List.getElem?_eq_getElem h]
  rfl
theorem gq_mem {L : RG} {j : Nat} (h : j < L.length) : gq L j ∈ L := by
  unfold gq
  rw [List.getD_eq_getElem?_getD, List.getElem?_eq_getElem h]
  exact List.getElem_mem h
set_option maxRecDepth 100000 in
set_option maxHeartbeats 4000000 in
theorem ringSum_loop {w : Nat} (hW : isW w) {t : NT} (ok : okT t) {h : PH} (nc : NetC h (w + 1) t) {k : Nat} (hk : k < 14) {L : RG} (ra : RAt h (w + 17) k L) (h9 : L.length ≤ 9) (hm : ∀ q ∈ L, q.1 < NT.E t) (f : FL) (hf : ∀ e, e < 14 → h.2 (w + 22) e = f e) : ∀ (m j : Nat) (acc : Int64), j + m = L.length → RT mX6_ringSum 2 12 [some (.ref w), some (.int (nI k)), some (.long acc), none, some (.int (nI (9 * k))), some (.int (nI (9 * k + j))), none] [] h (fun a b => a = some (.long ((L.drop j).foldl (fun a q => a + q.2.toInt64 * lsT t q.1 (f q.1)) acc)) ∧ b = h) := by
  have hE14 := ok.2.2.1
  intro m
  induction m with
  | zero =>
    intro j acc hj
    refine r_iload_5 dX6_ringSum_12 ?_
    refine r_iload_4 dX6_ringSum_14 ?_
    refine r_aload_0 dX6_ringSum_16 ?_
    refine r_getR (a := (w + 17)) dX6_ringSum_17 fl_X6_28 (hW.s 0 (by decide)) rfl ?_
    refine r_getR (a := (w + 17 + 1)) dX6_ringSum_20 fl_X6_169 (hW.s 17 (by decide)) rfl ?_
    refine r_iload_1 dX6_ringSum_23 ?_
    refine r_ialdN dX6_ringSum_24 (hW.s 18 (by decide)) (by omega) ?_
    rw [ra.1]
    refine r_iadd dX6_ringSum_25 ?_
    rw [nI_add]
    refine r_icmpN_ge 78 dX6_ringSum_26 (by decide) (by omega) (by omega) (fun c_26 => ?_) (fun c_26 => by omega)
    refine r_lload_2 dX6_ringSum_78 ?_
    refine r_lret dX6_ringSum_79 rfl ?_
    exact ⟨by rw [List.drop_eq_nil_of_le (by omega)]; rfl, rfl⟩
  | succ m ih =>
    intro j acc hj
    have hjl : j < L.length := by omega
    have he : (gq L j).1 < NT.E t := hm _ (gq_mem hjl)
    have hr := ra.2 j hjl
    rw [drop_gq hjl]
    refine r_iload_5 dX6_ringSum_12 ?_
    refine r_iload_4 dX6_ringSum_14 ?_
    refine r_aload_0 dX6_ringSum_16 ?_
    refine r_getR (a := (w + 17)) dX6_ringSum_17 fl_X6_28 (hW.s 0 (by decide)) rfl ?_
    refine r_getR (a := (w + 17 + 1)) dX6_ringSum_20 fl_X6_169 (hW.s 17 (by decide)) rfl ?_
    refine r_iload_1 dX6_ringSum_23 ?_
    refine r_ialdN dX6_ringSum_24 (hW.s 18 (by decide)) (by omega) ?_
    rw [ra.1]
    refine r_iadd dX6_ringSum_25 ?_
    rw [nI_add]
    refine r_icmpN_ge 78 dX6_ringSum_26 (by decide) (by omega) (by omega) (fun c_26 => by omega) (fun c_26 => ?_)
    refine r_aload_0 dX6_ringSum_29 ?_
    refine r_getR (a := (w + 17)) dX6_ringSum_30 fl_X6_28 (hW.s 0 (by decide)) rfl ?_
    refine r_getR (a := (w + 17 + 2)) dX6_ringSum_33 fl_X6_172 (hW.s 17 (by decide)) rfl ?_
    refine r_iload_5 dX6_ringSum_36 ?_
    refine r_ialdN dX6_ringSum_38 (hW.s 19 (by decide)) (by omega) ?_
    rw [hr.1]
    refine r_istore_6 dX6_ringSum_39 ?_
    refine r_lload_2 dX6_ringSum_41 ?_
    refine r_aload_0 dX6_ringSum_42 ?_
    refine r_getR (a := (w + 17)) dX6_ringSum_43 fl_X6_28 (hW.s 0 (by decide)) rfl ?_
    refine r_getR (a := (w + 17 + 3)) dX6_ringSum_46 fl_X6_175 (hW.s 17 (by decide)) rfl ?_
    refine r_iload_5 dX6_ringSum_49 ?_
    refine r_ialdN dX6_ringSum_51 (hW.s 20 (by decide)) (by omega) ?_
    rw [hr.2]
    refine r_i2l dX6_ringSum_52 ?_
    refine r_aload_0 dX6_ringSum_53 ?_
    refine r_getR (a := (w + 1)) dX6_ringSum_54 fl_X6_12 (hW.s 0 (by decide)) rfl ?_
    refine r_iload_6 dX6_ringSum_57 ?_
    refine r_aload_0 dX6_ringSum_59 ?_
    refine r_getR (a := (w + 22)) dX6_ringSum_60 fl_X6_32 (hW.s 0 (by decide)) rfl ?_
    refine r_iload_6 dX6_ringSum_63 ?_
    refine r_laldN dX6_ringSum_65 (hW.s 22 (by decide)) (by omega) ?_
    rw [hf _ (by omega)]
    refine r_cV2 mX2_lossBy dX6_ringSum_66 ml_X6_176 mo_X2_lossBy (hW.s 1 (by decide)) (k_X2_lossBy hW.n ok nc he _) (by decide) ?_
    refine r_lmul dX6_ringSum_69 ?_
    refine r_ladd dX6_ringSum_70 ?_
    refine r_lstore_2 dX6_ringSum_71 ?_
    refine r_iincN_5 dX6_ringSum_72 ?_
    refine r_goto 12 dX6_ringSum_75 (by decide) ?_
    refine RT.sub (lv' := [some (.ref w), some (.int (nI k)), some (.long (acc + (gq L j).2.toInt64 * lsT t (gq L j).1 (f (gq L j).1))), none, some (.int (nI (9 * k))), some (.int (nI (9 * k + j + 1))), none]) (by simp [lsub]) ?_
    rw [List.foldl_cons]
    exact ih (j + 1) _ (by omega)
set_option maxRecDepth 100000 in
set_option maxHeartbeats 4000000 in
theorem k_ringSum {w : Nat} (hW : isW w) {t : NT} (ok : okT t) {h : PH} (nc : NetC h (w + 1) t) {k : Nat} (hk : k < 14) {L : RG} (ra : RAt h (w + 17) k L) (h9 : L.length ≤ 9) (hm : ∀ q ∈ L, q.1 < NT.E t) (f : FL) (hf : ∀ e, e < 14 → h.2 (w + 22) e = f e) : ConF mX6_ringSum 2 [.ref w, .int (nI k)] h (some (.long (rSum (lsT t) f L))) h := by
  refine Con.mk (by decide) ?_
  show RT _ _ 0 [some (.ref w), some (.int (nI k)), none, none, none, none, none] [] _ _
  refine r_lconst (v := 0) dX6_ringSum_0 (by decide) ?_
  refine r_lstore_2 dX6_ringSum_1 ?_
  refine r_iload_1 dX6_ringSum_2 ?_
  refine r_bipush (v := nI 9) dX6_ringSum_3 (by decide) ?_
  refine r_imul dX6_ringSum_5 ?_
  rw [pk_mul, Nat.mul_comm k 9]
  refine r_istore_4 dX6_ringSum_6 ?_
  refine r_iload_4 dX6_ringSum_8 ?_
  refine r_istore_5 dX6_ringSum_10 ?_
  exact ringSum_loop hW ok nc hk ra h9 hm f hf L.length 0 0 (by omega)

set_option maxRecDepth 100000 in
set_option maxHeartbeats 4000000 in
theorem ringSteep_loop {w : Nat} (hW : isW w) {t : NT} (ok : okT t) {h : PH} (nc : NetC h (w + 1) t) {k : Nat} (hk : k < 14) {L : RG} (ra : RAt h (w + 17) k L) (h9 : L.length ≤ 9) (hm : ∀ q ∈ L, q.1 < NT.E t) (f : FL) (hf : ∀ e, e < 14 → h.2 (w + 22) e = f e) : ∀ (m j : Nat) (acc : Int64), j + m = L.length → RT mX6_ringSteep 2 12 [some (.ref w), some (.int (nI k)), some (.long acc), none, some (.int (nI (9 * k))), some (.int (nI (9 * k + j))), none] [] h (fun a b => a = some (.long ((L.drop j).foldl (fun a q => a + spT t q.1 (f q.1)) acc)) ∧ b = h) := by
  have hE14 := ok.2.2.1
  intro m
  induction m with
  | zero =>
    intro j acc hj
    refine r_iload_5 dX6_ringSteep_12 ?_
    refine r_iload_4 dX6_ringSteep_14 ?_
    refine r_aload_0 dX6_ringSteep_16 ?_
    refine r_getR (a := (w + 17)) dX6_ringSteep_17 fl_X6_28 (hW.s 0 (by decide)) rfl ?_
    refine r_getR (a := (w + 17 + 1)) dX6_ringSteep_20 fl_X6_169 (hW.s 17 (by decide)) rfl ?_
    refine r_iload_1 dX6_ringSteep_23 ?_
    refine r_ialdN dX6_ringSteep_24 (hW.s 18 (by decide)) (by omega) ?_
    rw [ra.1]
    refine r_iadd dX6_ringSteep_25 ?_
    rw [nI_add]
    refine r_icmpN_ge 66 dX6_ringSteep_26 (by decide) (by omega) (by omega) (fun c_26 => ?_) (fun c_26 => by omega)
    refine r_lload_2 dX6_ringSteep_66 ?_
    refine r_lret dX6_ringSteep_67 rfl ?_
    exact ⟨by rw [List.drop_eq_nil_of_le (by omega)]; rfl, rfl⟩
  | succ m ih =>
    intro j acc hj
    have hjl : j < L.length := by omega
    have he : (gq L j).1 < NT.E t := hm _ (gq_mem hjl)
    have hr := ra.2 j hjl
    rw [drop_gq hjl]
    refine r_iload_5 dX6_ringSteep_12 ?_
    refine r_iload_4 dX6_ringSteep_14 ?_
    refine r_aload_0 dX6_ringSteep_16 ?_
    refine r_getR (a := (w + 17)) dX6_ringSteep_17 fl_X6_28 (hW.s 0 (by decide)) rfl ?_
    refine r_getR (a := (w + 17 + 1)) dX6_ringSteep_20 fl_X6_169 (hW.s 17 (by decide)) rfl ?_
    refine r_iload_1 dX6_ringSteep_23 ?_
    refine r_ialdN dX6_ringSteep_24 (hW.s 18 (by decide)) (by omega) ?_
    rw [ra.1]
    refine r_iadd dX6_ringSteep_25 ?_
    rw [nI_add]
    refine r_icmpN_ge 66 dX6_ringSteep_26 (by decide) (by omega) (by omega) (fun c_26 => by omega) (fun c_26 => ?_)
    refine r_aload_0 dX6_ringSteep_29 ?_
    refine r_getR (a := (w + 17)) dX6_ringSteep_30 fl_X6_28 (hW.s 0 (by decide)) rfl ?_
    refine r_getR (a := (w + 17 + 2)) dX6_ringSteep_33 fl_X6_172 (hW.s 17 (by decide)) rfl ?_
    refine r_iload_5 dX6_ringSteep_36 ?_
    refine r_ialdN dX6_ringSteep_38 (hW.s 19 (by decide)) (by omega) ?_
    rw [hr.1]
    refine r_istore_6 dX6_ringSteep_39 ?_
    refine r_lload_2 dX6_ringSteep_41 ?_
    refine r_aload_0 dX6_ringSteep_42 ?_
    refine r_getR (a := (w + 1)) dX6_ringSteep_43 fl_X6_12 (hW.s 0 (by decide)) rfl ?_
    refine r_iload_6 dX6_ringSteep_46 ?_
    refine r_aload_0 dX6_ringSteep_48 ?_
    refine r_getR (a := (w + 22)) dX6_ringSteep_49 fl_X6_32 (hW.s 0 (by decide)) rfl ?_
    refine r_iload_6 dX6_ringSteep_52 ?_
    refine r_laldN dX6_ringSteep_54 (hW.s 22 (by decide)) (by omega) ?_
    rw [hf _ (by omega)]
    refine r_cV2 mX2_steepBy dX6_ringSteep_55 ml_X6_180 mo_X2_steepBy (hW.s 1 (by decide)) (k_X2_steepBy hW.n ok nc he _) (by decide) ?_
    refine r_ladd dX6_ringSteep_58 ?_
    refine r_lstore_2 dX6_ringSteep_59 ?_
    refine r_iincN_5 dX6_ringSteep_60 ?_
    refine r_goto 12 dX6_ringSteep_63 (by decide) ?_
    refine RT.sub (lv' := [some (.ref w), some (.int (nI k)), some (.long (acc + spT t (gq L j).1 (f (gq L j).1))), none, some (.int (nI (9 * k))), some (.int (nI (9 * k + j + 1))), none]) (by simp [lsub]) ?_
    rw [List.foldl_cons]
    exact ih (j + 1) _ (by omega)
set_option maxRecDepth 100000 in
set_option maxHeartbeats 4000000 in
theorem k_ringSteep {w : Nat} (hW : isW w) {t : NT} (ok : okT t) {h : PH} (nc : NetC h (w + 1) t) {k : Nat} (hk : k < 14) {L : RG} (ra : RAt h (w + 17) k L) (h9 : L.length ≤ 9) (hm : ∀ q ∈ L, q.1 < NT.E t) (f : FL) (hf : ∀ e, e < 14 → h.2 (w + 22) e = f e) : ConF mX6_ringSteep 2 [.ref w, .int (nI k)] h (some (.long (rStp (spT t) f L))) h := by
  refine Con.mk (by decide) ?_
  show RT _ _ 0 [some (.ref w), some (.int (nI k)), none, none, none, none, none] [] _ _
  refine r_lconst (v := 0) dX6_ringSteep_0 (by decide) ?_
  refine r_lstore_2 dX6_ringSteep_1 ?_
  refine r_iload_1 dX6_ringSteep_2 ?_
  refine r_bipush (v := nI 9) dX6_ringSteep_3 (by decide) ?_
  refine r_imul dX6_ringSteep_5 ?_
  rw [pk_mul, Nat.mul_comm k 9]
  refine r_istore_4 dX6_ringSteep_6 ?_
  refine r_iload_4 dX6_ringSteep_8 ?_
  refine r_istore_5 dX6_ringSteep_10 ?_
  exact ringSteep_loop hW ok nc hk ra h9 hm f hf L.length 0 0 (by omega)

set_option maxRecDepth 100000 in
set_option maxHeartbeats 4000000 in
theorem lessen_loop {w : Nat} (hW : isW w) {t : NT} (ok : okT t) {k : Nat} (hk : k < 14) {L : RG} (h9 : L.length ≤ 9) (hm : ∀ q ∈ L, q.1 < NT.E t) (stp : Int64) (h0 : PH) : ∀ (m j : Nat) (f : FL) (h : PH), j + m = L.length → RAt h (w + 17) k L → (∀ e, e < 14 → h.2 (w + 22) e = f e) → Fr (fun y => y = w + 22) h0 h → h.1 = h0.1 → RT mX6_lessen 1 10 [some (.ref w), some (.int (nI k)), some (.long stp), none, some (.int (nI (9 * k))), some (.int (nI (9 * k + j)))] [] h (fun a h' => a = none ∧ ((∀ e, e < 14 → h'.2 (w + 22) e = (L.drop j).foldl (fun f q => fupd f q.1 (f q.1 - q.2.toInt64 * stp)) f e) ∧ Fr (fun y => y = w + 22) h0 h' ∧ h'.1 = h0.1)) := by
  have hE14 := ok.2.2.1
  intro m
  induction m with
  | zero =>
    intro j f h hj ra hf fr e1
    refine r_iload_5 dX6_lessen_10 ?_
    refine r_iload_4 dX6_lessen_12 ?_
    refine r_aload_0 dX6_lessen_14 ?_
    refine r_getR (a := (w + 17)) dX6_lessen_15 fl_X6_28 (hW.s 0 (by decide)) rfl ?_
    refine r_getR (a := (w + 17 + 1)) dX6_lessen_18 fl_X6_169 (hW.s 17 (by decide)) rfl ?_
    refine r_iload_1 dX6_lessen_21 ?_
    refine r_ialdN dX6_lessen_22 (hW.s 18 (by decide)) (by omega) ?_
    rw [ra.1]
    refine r_iadd dX6_lessen_23 ?_
    rw [nI_add]
    refine r_icmpN_ge 64 dX6_lessen_24 (by decide) (by omega) (by omega) (fun c_24 => ?_) (fun c_24 => by omega)
    refine r_vret dX6_lessen_64 rfl ?_
    exact ⟨rfl, by rw [List.drop_eq_nil_of_le (by omega)]; exact hf, fr, e1⟩
  | succ m ih =>
    intro j f h hj ra hf fr e1
    have hjl : j < L.length := by omega
    have he : (gq L j).1 < NT.E t := hm _ (gq_mem hjl)
    have hr := ra.2 j hjl
    rw [drop_gq hjl]
    refine r_iload_5 dX6_lessen_10 ?_
    refine r_iload_4 dX6_lessen_12 ?_
    refine r_aload_0 dX6_lessen_14 ?_
    refine r_getR (a := (w + 17)) dX6_lessen_15 fl_X6_28 (hW.s 0 (by decide)) rfl ?_
    refine r_getR (a := (w + 17 + 1)) dX6_lessen_18 fl_X6_169 (hW.s 17 (by decide)) rfl ?_
    refine r_iload_1 dX6_lessen_21 ?_
    refine r_ialdN dX6_lessen_22 (hW.s 18 (by decide)) (by omega) ?_
    rw [ra.1]
    refine r_iadd dX6_lessen_23 ?_
    rw [nI_add]
    refine r_icmpN_ge 64 dX6_lessen_24 (by decide) (by omega) (by omega) (fun c_24 => by omega) (fun c_24 => ?_)
    refine r_aload_0 dX6_lessen_27 ?_
    refine r_getR (a := (w + 22)) dX6_lessen_28 fl_X6_32 (hW.s 0 (by decide)) rfl ?_
    refine r_aload_0 dX6_lessen_31 ?_
    refine r_getR (a := (w + 17)) dX6_lessen_32 fl_X6_28 (hW.s 0 (by decide)) rfl ?_
    refine r_getR (a := (w + 17 + 2)) dX6_lessen_35 fl_X6_172 (hW.s 17 (by decide)) rfl ?_
    refine r_iload_5 dX6_lessen_38 ?_
    refine r_ialdN dX6_lessen_40 (hW.s 19 (by decide)) (by omega) ?_
    rw [hr.1]
    refine r_dup2ir dX6_lessen_41 ?_
    refine r_laldN dX6_lessen_42 (hW.s 22 (by decide)) (by omega) ?_
    rw [hf _ (by omega)]
    refine r_aload_0 dX6_lessen_43 ?_
    refine r_getR (a := (w + 17)) dX6_lessen_44 fl_X6_28 (hW.s 0 (by decide)) rfl ?_
    refine r_getR (a := (w + 17 + 3)) dX6_lessen_47 fl_X6_175 (hW.s 17 (by decide)) rfl ?_
    refine r_iload_5 dX6_lessen_50 ?_
    refine r_ialdN dX6_lessen_52 (hW.s 20 (by decide)) (by omega) ?_
    rw [hr.2]
    refine r_i2l dX6_lessen_53 ?_
    refine r_lload_2 dX6_lessen_54 ?_
    refine r_lmul dX6_lessen_55 ?_
    refine r_lsub dX6_lessen_56 ?_
    refine r_lastN dX6_lessen_57 (hW.s 22 (by decide)) (by omega) ?_
    refine r_iincN_5 dX6_lessen_58 ?_
    refine r_goto 10 dX6_lessen_61 (by decide) ?_
    rw [List.foldl_cons]
    exact ih (j + 1) _ _ (by omega) (ra.ext rfl rfl rfl) (fun e he => by
      rw [pL_2]
      by_cases q : e = (gq L j).1
      · subst q; rw [fupd_s]; simp
      · rw [fupd_n q, if_neg (fun z => q z.2)]; exact hf e he) (fr.pL rfl) e1
set_option maxRecDepth 100000 in
set_option maxHeartbeats 4000000 in
theorem k_lessen {w : Nat} (hW : isW w) {t : NT} (ok : okT t) {k : Nat} (hk : k < 14) {L : RG} (h9 : L.length ≤ 9) (hm : ∀ q ∈ L, q.1 < NT.E t) (stp : Int64) {h : PH} (ra : RAt h (w + 17) k L) (f : FL) (hf : ∀ e, e < 14 → h.2 (w + 22) e = f e) : Con mX6_lessen 1 [.ref w, .int (nI k), .long stp] h (fun a h' => a = none ∧ ((∀ e, e < 14 → h'.2 (w + 22) e = lessS f L stp e) ∧ Fr (fun y => y = w + 22) h h' ∧ h'.1 = h.1)) := by
  refine Con.mk (by decide) ?_
  show RT _ _ 0 [some (.ref w), some (.int (nI k)), some (.long stp), none, none, none] [] _ _
  refine r_iload_1 dX6_lessen_0 ?_
  refine r_bipush (v := nI 9) dX6_lessen_1 (by decide) ?_
  refine r_imul dX6_lessen_3 ?_
  rw [pk_mul, Nat.mul_comm k 9]
  refine r_istore_4 dX6_lessen_4 ?_
  refine r_iload_4 dX6_lessen_6 ?_
  refine r_istore_5 dX6_lessen_8 ?_
  exact lessen_loop hW ok hk h9 hm stp h L.length 0 f h (by omega) ra hf Fr.rf rfl

set_option maxRecDepth 100000 in
set_option maxHeartbeats 4000000 in
theorem k_nearest (h : PH) (u d : Int64) (hd : 1 ≤ d.toInt ∧ d.toInt ≤ 9663676416) : ConF mX6_nearest 1 [.long u, .long d] h (some (.long (nearS u d))) h := by
  refine Con.mk (by decide) ?_
  show RT _ _ 0 [some (.long u), none, some (.long d), none, none, none] [] _ _
  have e0 : (0 : Int64).toInt = 0 := by decide +kernel
  have e2 : (2 : Int64).toInt = 2 := by decide +kernel
  have hab : (if 0 < u then u else -u) = (if u < 0 then -u else u) := by
    by_cases h1 : 0 < u
    · rw [if_pos h1, if_neg (fun h2 => by rw [fa_lt64] at h1 h2; omega)]
    · rw [if_neg h1]
      by_cases h2 : u < 0
      · rw [if_pos h2]
      · have : u = 0 := by rw [fa_lt64] at h1 h2; rw [fa_eq64]; omega
        subst this; rw [if_neg h2]; rfl
  have hz : ¬ 2 * d = 0 := by
    intro q
    have m := fb_mulL (x := 2) (y := d) (by rw [e2]; omega) (by rw [e2]; omega)
    rw [q, e0, e2] at m
    omega
  refine r_lload_2 dX6_nearest_0 ?_
  refine r_lconst (v := 0) dX6_nearest_1 (by decide) ?_
  refine r_lif_gt 8 dX6_nearest_2 dX6_nearest_3 (by decide) (fun c_2 => ?_) (fun c_2 => by exact absurd (show 0 < d by rw [fa_lt64, e0]; omega) c_2)
  refine r_ldc2 dX6_nearest_8 ks_X6_183 ?_
  refine r_lload_0 dX6_nearest_11 ?_
  refine r_labs dX6_nearest_12 ml_X6_185 mo_Mabs (by decide) ?_
  rw [hab]
  refine r_lmul dX6_nearest_15 ?_
  refine r_lload_2 dX6_nearest_16 ?_
  refine r_ladd dX6_nearest_17 ?_
  refine r_lconst (v := 1) dX6_nearest_18 (by decide) ?_
  refine r_lsub dX6_nearest_19 ?_
  refine r_ldc2 dX6_nearest_20 ks_X6_183 ?_
  refine r_lload_2 dX6_nearest_23 ?_
  refine r_lmul dX6_nearest_24 ?_
  refine r_ldiv dX6_nearest_25 hz ?_
  refine r_lstore_4 dX6_nearest_26 ?_
  refine r_lload_0 dX6_nearest_28 ?_
  refine r_lconst (v := 0) dX6_nearest_29 (by decide) ?_
  refine r_lif_ge 40 dX6_nearest_30 dX6_nearest_31 (by decide) (fun c_30 => ?_) (fun c_30 => ?_)
  · refine r_lload_4 dX6_nearest_40 ?_
    refine r_lret dX6_nearest_42 rfl ?_
    exact ⟨by unfold nearS; first | (simp only [if_neg (Int64.not_lt.mpr c_30)]; done) | (simp only [if_pos (Int64.not_le.mp c_30)]; done), rfl⟩
  · refine r_lload_4 dX6_nearest_34 ?_
    refine r_lneg dX6_nearest_36 ?_
    refine r_goto 42 dX6_nearest_37 (by decide) ?_
    refine r_lret dX6_nearest_42 rfl ?_
    exact ⟨by unfold nearS; first | (simp only [if_neg (Int64.not_lt.mpr c_30)]; done) | (simp only [if_pos (Int64.not_le.mp c_30)]; done), rfl⟩

