/-! ===== the first state; the law's own cell; named() as the law asks it ===== -/
def t000 : NT := (0, 0, fun _ => 0, fun _ => 0, fun _ => 0, fun _ => 0, fun _ => 0, fun _ _ => 0, fun _ => 0, 0, 0, fun _ => 0)
theorem INV0 : INV hp0 := by
  refine ⟨0, fun _ => 0, 0, 0, -1, t000, fun _ => [], [], fun _ => none, ⟨rfl, by decide, fun i hi => absurd hi (by omega)⟩, ⟨rfl, rfl, rfl⟩, ⟨rfl, rfl, fun _ => rfl, fun q => absurd q (Nat.lt_irrefl 0)⟩, ⟨rfl, by decide, fun i hi => absurd hi (by omega)⟩, ⟨rfl, rfl, fun q => absurd q (by decide), fun _ => rfl⟩, ⟨rfl, rfl, rfl, rfl, fun _ => rfl, fun q => absurd q (Nat.lt_irrefl 0)⟩⟩
theorem pl99 {h : PH} {v : Int64} (y : Nat) (hy : y ≠ 99) : (pL h 99 0 v).2 y = h.2 y := funext fun j => pL_ne y j (Or.inl hy)
theorem MX.o99 {h : PH} {t : NT} {nm : NMS} {ac : List NT} {ms : MES} (c : MX h t nm ac ms) (v : Int64) : MX (pL h 99 0 v) t nm ac ms := by
  obtain ⟨c1, c2, c3, c4, c5, c6⟩ := c
  refine ⟨c1, c2, c3, c4, c5, fun h0 => ?_⟩
  obtain ⟨d1, d2, d3, d4, d5⟩ := c6 h0
  refine ⟨d1, ?_, d3, d4, d5⟩
  obtain ⟨s1, s2, s3, s4, s5, s6, s7, s8, s9⟩ := d2
  refine ⟨s1, s2, s3, s4, s5, s6, s7, fun e he => ?_, fun i hi => ?_⟩
  · rw [pl99 87 (by decide)]; exact s8 e he
  · rw [pl99 91 (by decide)]; exact s9 i hi
theorem CX.o99 {h : PH} {t : NT} {nm : NMS} {ac : List NT} {ms : MES} (c : CX h t nm ac ms) (v : Int64) : CX (pL h 99 0 v) t nm ac ms := c.k (fun y _ hy => ⟨rfl, funext fun j => pL_ne y j (Or.inl (by omega))⟩)
theorem INV.o99 {h : PH} (i : INV h) (v : Int64) : INV (pL h 99 0 v) := by
  obtain ⟨n, bs, tr, fl, wp, t, nm, ac, ms, i1, i2, i3, i4, i5, i6⟩ := i
  exact ⟨n, bs, tr, fl, wp, t, nm, ac, ms, i1, i2, i3.o99 v, i4, i5, i6.o99 v⟩
theorem Con.imp {M : MI} {dp : Nat} {as : List Value} {h : PH} {Q Q' : Option Value → PH → Prop} (k : Con M dp as h Q) (hq : ∀ v h', Q v h' → Q' v h') : Con M dp as h Q' := by
  intro l D cA tys A ad hT p e ha hc hk s m args below hf happ hP hK
  obtain ⟨n, o, h1, h2, h3, ⟨⟨⟨v, h', e1, e2, e3, e4⟩, e5⟩, e6⟩⟩ := k l D cA tys A ad hT p e ha hc hk s m args below hf happ hP hK
  exact ⟨n, o, h1, h2, h3, ⟨⟨⟨v, h', e1, ⟨hq v h' e2.1, e2.2⟩, e3, e4⟩, e5⟩, e6⟩⟩
theorem q_thrown (h : PH) : ConF mX8_thrown 1 [.ref 74] h (some (.int (h.1 74 0))) h := by
  refine Con.mk (by decide) ?_
  show RT _ _ 0 [some (.ref 74)] [] _ _
  refine r_aload_0 dX8_thrown_0 ?_
  refine r_getI dX8_thrown_1 fl_X8_96 rfl ?_
  refine r_iret dX8_thrown_4 rfl ?_
  exact ⟨rfl, rfl⟩
theorem o_named {l : Launch} (hl : l.stackTraces = false) {h : PH} (i : INV h) (x : Int32) :
    (∃ j : Nat, (∀ (D : va_G) (cA : Nat → ClassId) (tys : List (ClassId × FieldType)) (A : Nat → Prop) (ad : Nat → Nat), RTy cA tys → Met l yL_named wsN (ktR 7 1 6) (XPc D cA tys A ad [.ref 0, .int x, .ref 99] h) (RQ D cA A ad (fun a h' => a = some (.int 0) ∧ h' = pL h 99 0 (nI j).toInt64)) 1 6 A) ∧ ConF mX8_named 2 [.ref 74, .int x] (pL h 99 0 (nI j).toInt64) (some (.int (nI j))) (pI (pL h 99 0 (nI j).toInt64) 74 0 0)) ∨
    ((∀ (D : va_G) (cA : Nat → ClassId) (tys : List (ClassId × FieldType)) (A : Nat → Prop) (ad : Nat → Nat), RTy cA tys → Met l yL_named wsN (ktR 7 1 6) (XPc D cA tys A ad [.ref 0, .int x, .ref 99] h) (RQ D cA A ad (fun a h' => a = some (.int 1) ∧ h' = h)) 1 6 A) ∧ ConF mX8_named 2 [.ref 74, .int x] h (some (.int 0)) (pI (pI h 74 0 0) 74 0 1)) := by
  obtain ⟨n0, bs, tr, fl, wp, t, nm, ac, ms, i1, i2, i3, i4, i5, i6⟩ := i
  obtain ⟨j1, j2, j3⟩ := i1
  obtain ⟨l1, l2, l3⟩ := i4
  let B : Nat → Nat := fun i => (bs i).toInt.toNat
  have ok : OKB n0 B := ⟨by omega, fun i hi => (bn_of (l3 i hi).2.1 (l3 i hi).2.2).1⟩
  have eb : ∀ i, i < n0 → bs i = nI (B i) := fun i hi => (bn_of (l3 i hi).2.1 (l3 i hi).2.2).2
  have hbC : ∀ i, i < n0 → h.1 1 i = sB (B i) := fun i hi => by rw [j3 i hi, eb i hi]; rfl
  have hbM : ∀ i, i < n0 → h.1 75 i = nI (B i) := fun i hi => by rw [(l3 i hi).1]; exact eb i hi
  clear_value B
  have okn : 0 < NT.J t → NT.J t ≤ 9 ∧ nmOK t nm := fun q => ⟨(i3.2.2.2 q).1.1.2.1, (i3.2.2.2 q).2.1⟩
  cases hj : nmF nm (NT.J t) B n0 x with
  | some j =>
    refine Or.inl ⟨j, fun D cA tys A ad hT => n_found i3 j2 j1 ok hbC hj D cA tys A ad hT, ?_⟩
    exact (q_named (i6.o99 _) okn ok l1 hbM x).imp (fun a h' q => q.1 j hj)
  | none =>
    refine Or.inr ⟨fun D cA tys A ad hT => n_none hl i3 j2 j1 ok hbC hj D cA tys A ad hT, ?_⟩
    exact (q_named i6 okn ok l1 hbM x).imp (fun a h' q => q.2 hj)
