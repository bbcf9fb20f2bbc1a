/-! ===== the five constructors ===== -/
def gI : LandT := (fun _ => 0, upd (fun _ => 0) (Int32.toNatClampNeg 0) (-1), fun _ => 0, fun _ => 0, fun _ => 0, fun _ => 0, fun _ => 0, 0, 0, 16, 0)
def rmX0_init : Room := { frames := 1, cells := 7, slots := 65, locals := 12 }
theorem mbX0_init_o1 : Cond.methodLink RX0 3 objectInit ∈ wsX0_init := by decide +kernel
theorem mbX0_init_o2 : Cond.instanceMethod objectInit ∈ wsX0_init := by decide +kernel
theorem mbX0_init_o3 : Cond.code objectInit ⟨#[0xb1]⟩ 1 none ∈ wsX0_init := by decide +kernel
theorem mbX0_init_aint : Cond.arrayClass .int ∈ wsX0_init := by decide +kernel
theorem inX0_init_X0 : ∀ w ∈ wsX00, w ∈ wsX0_init := by decide +kernel
theorem mbX0_init_f9 : Cond.fieldLink RX0 9 (TX0 0).1 (TX0 0).2.1 (TX0 0).2.2.1 ∈ wsX0_init := by decide +kernel
theorem mbX0_init_f15 : Cond.fieldLink RX0 15 (TX0 1).1 (TX0 1).2.1 (TX0 1).2.2.1 ∈ wsX0_init := by decide +kernel
theorem mbX0_init_f18 : Cond.fieldLink RX0 18 (TX0 2).1 (TX0 2).2.1 (TX0 2).2.2.1 ∈ wsX0_init := by decide +kernel
theorem mbX0_init_f21 : Cond.fieldLink RX0 21 (TX0 3).1 (TX0 3).2.1 (TX0 3).2.2.1 ∈ wsX0_init := by decide +kernel
theorem mbX0_init_f24 : Cond.fieldLink RX0 24 (TX0 4).1 (TX0 4).2.1 (TX0 4).2.2.1 ∈ wsX0_init := by decide +kernel
theorem mbX0_init_f27 : Cond.fieldLink RX0 27 (TX0 5).1 (TX0 5).2.1 (TX0 5).2.2.1 ∈ wsX0_init := by decide +kernel
theorem mbX0_init_f30 : Cond.fieldLink RX0 30 (TX0 6).1 (TX0 6).2.1 (TX0 6).2.2.1 ∈ wsX0_init := by decide +kernel
theorem mbX0_init_f33 : Cond.fieldLink RX0 33 (TX0 9).1 (TX0 9).2.1 (TX0 9).2.2.1 ∈ wsX0_init := by decide +kernel
theorem hdIX0_init : yX0_init.cls ≠ "java/lang/invoke/MethodHandle" ∧ yX0_init.cls ≠ "java/lang/invoke/VarHandle" ∧ (parseMethodDescriptor yX0_init.desc).map (fun d => d.parameters.length) = some 0 := by decide +kernel
set_option maxHeartbeats 4000000 in
set_option maxRecDepth 100000 in
theorem ctX0_init {l : Launch} {D : va_G} {cI cJ cQ : ClassId} (b : Nat) : CtN l D cI cJ cQ yX0_init wsX0_init rmX0_init b (.inr (0, [.null, .null, .null, .null, .null, .null, .null, .int 0, .int 0, .int 0, .int 0])) (fun u => wLd cI u gI) 7 65 := by
  refine ctN_of (cc := cX0_init) (by decide) rfl rfl ?_
  intro p e s m args below meth c A Q ls F hK hO hin hA RET hH hl
  obtain ⟨hx, hb, hml, hown, hts⟩ := id F
  obtain ⟨H, eH⟩ : ∃ H, H = s.heap := ⟨_, rfl⟩
  obtain ⟨locs, eL⟩ : ∃ locs : List Loc, locs = [] := ⟨_, rfl⟩
  have hH : Hs D A s.heap ([(b, .inr (0, [.null, .null, .null, .null, .null, .null, .null, .int 0, .int 0, .int 0, .int 0]))]) H locs := by rw [eH, eL]; exact hH
  rw [← eL]
  suffices hgo : W p l e rmX0_init s m args below meth c H locs 0 0 Q (F0 m 0 ls []) by rw [eH] at hgo; exact hgo
  clear eH eL
  refine lv_aload_n hx hb dX0_init_0 rfl (lv_at hl 0 rfl) ?_
  refine k_objI F hl.1 mbX0_init_o1 mbX0_init_o2 mbX0_init_o3 dX0_init_1 (Nat.le_of_ble_eq_true rfl) (Nat.le_of_ble_eq_true rfl) ?_
  refine lv_aload_n hx hb dX0_init_4 rfl (lv_at hl 0 rfl) ?_
  refine lv_bipush (v := 16) hx hb dX0_init_5 (by decide) ?_
  refine k_newI (N := 16) F hK hH hA mbX0_init_aint dX0_init_7 (by decide) rfl (by decide) (Nat.le_of_ble_eq_true rfl) (Nat.le_of_ble_eq_true rfl) (fun q1 H hH => ?_)
  have hH : Hs D A s.heap ([(b, .inr (0, [.null, .null, .null, .null, .null, .null, .null, .int 0, .int 0, .int 0, .int 0]))] ++ [(q1, .inl (cI, 16, .inl (fun _ => 0)))]) H locs := hH
  refine k_putF (v := .ref q1) F hK hH hin 0 inX0_init_X0 tyX0 tyX0_ok nmX0 0 mbX0_init_f9 dX0_init_9 rfl rfl (by decide) rfl rfl rfl rfl (Nat.le_of_ble_eq_true rfl) (fun H locs hH => ?_)
  have hH : Hs D A s.heap ([(b, .inr (0, [.ref q1, .null, .null, .null, .null, .null, .null, .int 0, .int 0, .int 0, .int 0]))] ++ [(q1, .inl (cI, 16, .inl (fun _ => 0)))]) H locs := hH
  refine lv_aload_n hx hb dX0_init_12 rfl (lv_at hl 0 rfl) ?_
  refine lv_bipush (v := 16) hx hb dX0_init_13 (by decide) ?_
  refine k_newI (N := 16) F hK hH hA mbX0_init_aint dX0_init_15 (by decide) rfl (by decide) (Nat.le_of_ble_eq_true rfl) (Nat.le_of_ble_eq_true rfl) (fun q2 H hH => ?_)
  have hH : Hs D A s.heap ([(b, .inr (0, [.ref q1, .null, .null, .null, .null, .null, .null, .int 0, .int 0, .int 0, .int 0]))] ++ [(q1, .inl (cI, 16, .inl (fun _ => 0)))] ++ [(q2, .inl (cI, 16, .inl (fun _ => 0)))]) H locs := hH
  refine k_putF (v := .ref q2) F hK hH hin 0 inX0_init_X0 tyX0 tyX0_ok nmX0 1 mbX0_init_f15 dX0_init_17 rfl rfl (by decide) rfl rfl rfl rfl (Nat.le_of_ble_eq_true rfl) (fun H locs hH => ?_)
  have hH : Hs D A s.heap ([(b, .inr (0, [.ref q1, .ref q2, .null, .null, .null, .null, .null, .int 0, .int 0, .int 0, .int 0]))] ++ [(q1, .inl (cI, 16, .inl (fun _ => 0)))] ++ [(q2, .inl (cI, 16, .inl (fun _ => 0)))]) H locs := hH
  refine lv_aload_n hx hb dX0_init_20 rfl (lv_at hl 0 rfl) ?_
  refine lv_bipush (v := 7) hx hb dX0_init_21 (by decide) ?_
  refine k_newI (N := 7) F hK hH hA mbX0_init_aint dX0_init_23 (by decide) rfl (by decide) (Nat.le_of_ble_eq_true rfl) (Nat.le_of_ble_eq_true rfl) (fun q3 H hH => ?_)
  have hH : Hs D A s.heap ([(b, .inr (0, [.ref q1, .ref q2, .null, .null, .null, .null, .null, .int 0, .int 0, .int 0, .int 0]))] ++ [(q1, .inl (cI, 16, .inl (fun _ => 0)))] ++ [(q2, .inl (cI, 16, .inl (fun _ => 0)))] ++ [(q3, .inl (cI, 7, .inl (fun _ => 0)))]) H locs := hH
  refine k_putF (v := .ref q3) F hK hH hin 0 inX0_init_X0 tyX0 tyX0_ok nmX0 2 mbX0_init_f18 dX0_init_25 rfl rfl (by decide) rfl rfl rfl rfl (Nat.le_of_ble_eq_true rfl) (fun H locs hH => ?_)
  have hH : Hs D A s.heap ([(b, .inr (0, [.ref q1, .ref q2, .ref q3, .null, .null, .null, .null, .int 0, .int 0, .int 0, .int 0]))] ++ [(q1, .inl (cI, 16, .inl (fun _ => 0)))] ++ [(q2, .inl (cI, 16, .inl (fun _ => 0)))] ++ [(q3, .inl (cI, 7, .inl (fun _ => 0)))]) H locs := hH
  refine lv_aload_n hx hb dX0_init_28 rfl (lv_at hl 0 rfl) ?_
  refine lv_bipush (v := 7) hx hb dX0_init_29 (by decide) ?_
  refine k_newI (N := 7) F hK hH hA mbX0_init_aint dX0_init_31 (by decide) rfl (by decide) (Nat.le_of_ble_eq_true rfl) (Nat.le_of_ble_eq_true rfl) (fun q4 H hH => ?_)
  have hH : Hs D A s.heap ([(b, .inr (0, [.ref q1, .ref q2, .ref q3, .null, .null, .null, .null, .int 0, .int 0, .int 0, .int 0]))] ++ [(q1, .inl (cI, 16, .inl (fun _ => 0)))] ++ [(q2, .inl (cI, 16, .inl (fun _ => 0)))] ++ [(q3, .inl (cI, 7, .inl (fun _ => 0)))] ++ [(q4, .inl (cI, 7, .inl (fun _ => 0)))]) H locs := hH
  refine k_putF (v := .ref q4) F hK hH hin 0 inX0_init_X0 tyX0 tyX0_ok nmX0 3 mbX0_init_f21 dX0_init_33 rfl rfl (by decide) rfl rfl rfl rfl (Nat.le_of_ble_eq_true rfl) (fun H locs hH => ?_)
  have hH : Hs D A s.heap ([(b, .inr (0, [.ref q1, .ref q2, .ref q3, .ref q4, .null, .null, .null, .int 0, .int 0, .int 0, .int 0]))] ++ [(q1, .inl (cI, 16, .inl (fun _ => 0)))] ++ [(q2, .inl (cI, 16, .inl (fun _ => 0)))] ++ [(q3, .inl (cI, 7, .inl (fun _ => 0)))] ++ [(q4, .inl (cI, 7, .inl (fun _ => 0)))]) H locs := hH
  refine lv_aload_n hx hb dX0_init_36 rfl (lv_at hl 0 rfl) ?_
  refine lv_bipush (v := 7) hx hb dX0_init_37 (by decide) ?_
  refine k_newI (N := 7) F hK hH hA mbX0_init_aint dX0_init_39 (by decide) rfl (by decide) (Nat.le_of_ble_eq_true rfl) (Nat.le_of_ble_eq_true rfl) (fun q5 H hH => ?_)
  have hH : Hs D A s.heap ([(b, .inr (0, [.ref q1, .ref q2, .ref q3, .ref q4, .null, .null, .null, .int 0, .int 0, .int 0, .int 0]))] ++ [(q1, .inl (cI, 16, .inl (fun _ => 0)))] ++ [(q2, .inl (cI, 16, .inl (fun _ => 0)))] ++ [(q3, .inl (cI, 7, .inl (fun _ => 0)))] ++ [(q4, .inl (cI, 7, .inl (fun _ => 0)))] ++ [(q5, .inl (cI, 7, .inl (fun _ => 0)))]) H locs := hH
  refine k_putF (v := .ref q5) F hK hH hin 0 inX0_init_X0 tyX0 tyX0_ok nmX0 4 mbX0_init_f24 dX0_init_41 rfl rfl (by decide) rfl rfl rfl rfl (Nat.le_of_ble_eq_true rfl) (fun H locs hH => ?_)
  have hH : Hs D A s.heap ([(b, .inr (0, [.ref q1, .ref q2, .ref q3, .ref q4, .ref q5, .null, .null, .int 0, .int 0, .int 0, .int 0]))] ++ [(q1, .inl (cI, 16, .inl (fun _ => 0)))] ++ [(q2, .inl (cI, 16, .inl (fun _ => 0)))] ++ [(q3, .inl (cI, 7, .inl (fun _ => 0)))] ++ [(q4, .inl (cI, 7, .inl (fun _ => 0)))] ++ [(q5, .inl (cI, 7, .inl (fun _ => 0)))]) H locs := hH
  refine lv_aload_n hx hb dX0_init_44 rfl (lv_at hl 0 rfl) ?_
  refine lv_bipush (v := 6) hx hb dX0_init_45 (by decide) ?_
  refine k_newI (N := 6) F hK hH hA mbX0_init_aint dX0_init_47 (by decide) rfl (by decide) (Nat.le_of_ble_eq_true rfl) (Nat.le_of_ble_eq_true rfl) (fun q6 H hH => ?_)
  have hH : Hs D A s.heap ([(b, .inr (0, [.ref q1, .ref q2, .ref q3, .ref q4, .ref q5, .null, .null, .int 0, .int 0, .int 0, .int 0]))] ++ [(q1, .inl (cI, 16, .inl (fun _ => 0)))] ++ [(q2, .inl (cI, 16, .inl (fun _ => 0)))] ++ [(q3, .inl (cI, 7, .inl (fun _ => 0)))] ++ [(q4, .inl (cI, 7, .inl (fun _ => 0)))] ++ [(q5, .inl (cI, 7, .inl (fun _ => 0)))] ++ [(q6, .inl (cI, 6, .inl (fun _ => 0)))]) H locs := hH
  refine k_putF (v := .ref q6) F hK hH hin 0 inX0_init_X0 tyX0 tyX0_ok nmX0 5 mbX0_init_f27 dX0_init_49 rfl rfl (by decide) rfl rfl rfl rfl (Nat.le_of_ble_eq_true rfl) (fun H locs hH => ?_)
  have hH : Hs D A s.heap ([(b, .inr (0, [.ref q1, .ref q2, .ref q3, .ref q4, .ref q5, .ref q6, .null, .int 0, .int 0, .int 0, .int 0]))] ++ [(q1, .inl (cI, 16, .inl (fun _ => 0)))] ++ [(q2, .inl (cI, 16, .inl (fun _ => 0)))] ++ [(q3, .inl (cI, 7, .inl (fun _ => 0)))] ++ [(q4, .inl (cI, 7, .inl (fun _ => 0)))] ++ [(q5, .inl (cI, 7, .inl (fun _ => 0)))] ++ [(q6, .inl (cI, 6, .inl (fun _ => 0)))]) H locs := hH
  refine lv_aload_n hx hb dX0_init_52 rfl (lv_at hl 0 rfl) ?_
  refine lv_bipush (v := 6) hx hb dX0_init_53 (by decide) ?_
  refine k_newI (N := 6) F hK hH hA mbX0_init_aint dX0_init_55 (by decide) rfl (by decide) (Nat.le_of_ble_eq_true rfl) (Nat.le_of_ble_eq_true rfl) (fun q7 H hH => ?_)
  have hH : Hs D A s.heap ([(b, .inr (0, [.ref q1, .ref q2, .ref q3, .ref q4, .ref q5, .ref q6, .null, .int 0, .int 0, .int 0, .int 0]))] ++ [(q1, .inl (cI, 16, .inl (fun _ => 0)))] ++ [(q2, .inl (cI, 16, .inl (fun _ => 0)))] ++ [(q3, .inl (cI, 7, .inl (fun _ => 0)))] ++ [(q4, .inl (cI, 7, .inl (fun _ => 0)))] ++ [(q5, .inl (cI, 7, .inl (fun _ => 0)))] ++ [(q6, .inl (cI, 6, .inl (fun _ => 0)))] ++ [(q7, .inl (cI, 6, .inl (fun _ => 0)))]) H locs := hH
  refine k_putF (v := .ref q7) F hK hH hin 0 inX0_init_X0 tyX0 tyX0_ok nmX0 6 mbX0_init_f30 dX0_init_57 rfl rfl (by decide) rfl rfl rfl rfl (Nat.le_of_ble_eq_true rfl) (fun H locs hH => ?_)
  have hH : Hs D A s.heap ([(b, .inr (0, [.ref q1, .ref q2, .ref q3, .ref q4, .ref q5, .ref q6, .ref q7, .int 0, .int 0, .int 0, .int 0]))] ++ [(q1, .inl (cI, 16, .inl (fun _ => 0)))] ++ [(q2, .inl (cI, 16, .inl (fun _ => 0)))] ++ [(q3, .inl (cI, 7, .inl (fun _ => 0)))] ++ [(q4, .inl (cI, 7, .inl (fun _ => 0)))] ++ [(q5, .inl (cI, 7, .inl (fun _ => 0)))] ++ [(q6, .inl (cI, 6, .inl (fun _ => 0)))] ++ [(q7, .inl (cI, 6, .inl (fun _ => 0)))]) H locs := hH
  refine lv_aload_n hx hb dX0_init_60 rfl (lv_at hl 0 rfl) ?_
  refine lv_bipush (v := 16) hx hb dX0_init_61 (by decide) ?_
  refine k_put (v := .int 16) F hK hH 0 inX0_init_X0 tyX0 tyX0_ok nmX0 9 mbX0_init_f33 dX0_init_63 rfl rfl (by decide) rfl rfl rfl (Nat.le_of_ble_eq_true rfl) (fun H locs hH => ?_)
  have hH : Hs D A s.heap ([(b, .inr (0, [.ref q1, .ref q2, .ref q3, .ref q4, .ref q5, .ref q6, .ref q7, .int 0, .int 0, .int 16, .int 0]))] ++ [(q1, .inl (cI, 16, .inl (fun _ => 0)))] ++ [(q2, .inl (cI, 16, .inl (fun _ => 0)))] ++ [(q3, .inl (cI, 7, .inl (fun _ => 0)))] ++ [(q4, .inl (cI, 7, .inl (fun _ => 0)))] ++ [(q5, .inl (cI, 7, .inl (fun _ => 0)))] ++ [(q6, .inl (cI, 6, .inl (fun _ => 0)))] ++ [(q7, .inl (cI, 6, .inl (fun _ => 0)))]) H locs := hH
  refine lv_aload_n hx hb dX0_init_66 rfl (lv_at hl 0 rfl) ?_
  refine k_get (v := .ref q2) F hK hH 0 inX0_init_X0 1 mbX0_init_f15 dX0_init_67 rfl rfl (by decide) rfl ?_
  refine lv_iconst (v := 0) hx hb dX0_init_70 (by decide) ?_
  refine lv_iconst (v := (-1)) hx hb dX0_init_71 (by decide) ?_
  refine k_iast (f := fun _ => 0) (n := 16) F hK hH 2 dX0_init_72 (by decide) rfl (fun H locs hH => ?_)
  have hH : Hs D A s.heap ([(b, .inr (0, [.ref q1, .ref q2, .ref q3, .ref q4, .ref q5, .ref q6, .ref q7, .int 0, .int 0, .int 16, .int 0]))] ++ [(q1, .inl (cI, 16, .inl (fun _ => 0)))] ++ [(q2, .inl (cI, 16, .inl (upd (fun _ => 0) (Int32.toNatClampNeg 0) (-1))))] ++ [(q3, .inl (cI, 7, .inl (fun _ => 0)))] ++ [(q4, .inl (cI, 7, .inl (fun _ => 0)))] ++ [(q5, .inl (cI, 7, .inl (fun _ => 0)))] ++ [(q6, .inl (cI, 6, .inl (fun _ => 0)))] ++ [(q7, .inl (cI, 6, .inl (fun _ => 0)))]) H locs := hH
  refine W.widen (k := 7) (n := 65) (Nat.le_of_ble_eq_true rfl) (Nat.le_of_ble_eq_true rfl) ?_
  exact RET (fun k => [b, q1, q2, q3, q4, q5, q6, q7].getD k 0) H locs ls 73 rfl dX0_init_73 hH

def rmX1_init : Room := { frames := 1, cells := 1, slots := 96, locals := 12 }
theorem mbX1_init_o1 : Cond.methodLink RX1 3 objectInit ∈ wsX1_init := by decide +kernel
theorem mbX1_init_o2 : Cond.instanceMethod objectInit ∈ wsX1_init := by decide +kernel
theorem mbX1_init_o3 : Cond.code objectInit ⟨#[0xb1]⟩ 1 none ∈ wsX1_init := by decide +kernel
theorem mbX1_init_aint : Cond.arrayClass .int ∈ wsX1_init := by decide +kernel
theorem inX1_init_X1 : ∀ w ∈ wsX10, w ∈ wsX1_init := by decide +kernel
theorem mbX1_init_f9 : Cond.fieldLink RX1 9 (TX1 0).1 (TX1 0).2.1 (TX1 0).2.2.1 ∈ wsX1_init := by decide +kernel
theorem hdIX1_init : yX1_init.cls ≠ "java/lang/invoke/MethodHandle" ∧ yX1_init.cls ≠ "java/lang/invoke/VarHandle" ∧ (parseMethodDescriptor yX1_init.desc).map (fun d => d.parameters.length) = some 0 := by decide +kernel
set_option maxHeartbeats 4000000 in
set_option maxRecDepth 100000 in
theorem ctX1_init {l : Launch} {D : va_G} {cI cJ cQ : ClassId} (b : Nat) : CtN l D cI cJ cQ yX1_init wsX1_init rmX1_init b (.inr (1, [.null, .int 0])) (fun u => wLt cI u (fun _ => 0) 0) 1 96 := by
  refine ctN_of (cc := cX1_init) (by decide) rfl rfl ?_
  intro p e s m args below meth c A Q ls F hK hO hin hA RET hH hl
  obtain ⟨hx, hb, hml, hown, hts⟩ := id F
  obtain ⟨H, eH⟩ : ∃ H, H = s.heap := ⟨_, rfl⟩
  obtain ⟨locs, eL⟩ : ∃ locs : List Loc, locs = [] := ⟨_, rfl⟩
  have hH : Hs D A s.heap ([(b, .inr (1, [.null, .int 0]))]) H locs := by rw [eH, eL]; exact hH
  rw [← eL]
  suffices hgo : W p l e rmX1_init s m args below meth c H locs 0 0 Q (F0 m 0 ls []) by rw [eH] at hgo; exact hgo
  clear eH eL
  refine lv_aload_n hx hb dX1_init_0 rfl (lv_at hl 0 rfl) ?_
  refine k_objI F hl.1 mbX1_init_o1 mbX1_init_o2 mbX1_init_o3 dX1_init_1 (Nat.le_of_ble_eq_true rfl) (Nat.le_of_ble_eq_true rfl) ?_
  refine lv_aload_n hx hb dX1_init_4 rfl (lv_at hl 0 rfl) ?_
  refine lv_bipush (v := 96) hx hb dX1_init_5 (by decide) ?_
  refine k_newI (N := 96) F hK hH hA mbX1_init_aint dX1_init_7 (by decide) rfl (by decide) (Nat.le_of_ble_eq_true rfl) (Nat.le_of_ble_eq_true rfl) (fun q1 H hH => ?_)
  have hH : Hs D A s.heap ([(b, .inr (1, [.null, .int 0]))] ++ [(q1, .inl (cI, 96, .inl (fun _ => 0)))]) H locs := hH
  refine k_putF (v := .ref q1) F hK hH hin 0 inX1_init_X1 tyX1 tyX1_ok nmX1 0 mbX1_init_f9 dX1_init_9 rfl rfl (by decide) rfl rfl rfl rfl (Nat.le_of_ble_eq_true rfl) (fun H locs hH => ?_)
  have hH : Hs D A s.heap ([(b, .inr (1, [.ref q1, .int 0]))] ++ [(q1, .inl (cI, 96, .inl (fun _ => 0)))]) H locs := hH
  refine W.widen (k := 1) (n := 96) (Nat.le_of_ble_eq_true rfl) (Nat.le_of_ble_eq_true rfl) ?_
  exact RET (fun k => [b, q1].getD k 0) H locs ls 12 rfl dX1_init_12 hH

def rmX2_init : Room := { frames := 1, cells := 0, slots := 0, locals := 12 }
theorem mbX2_init_o1 : Cond.methodLink RX2 3 objectInit ∈ wsX2_init := by decide +kernel
theorem mbX2_init_o2 : Cond.instanceMethod objectInit ∈ wsX2_init := by decide +kernel
theorem mbX2_init_o3 : Cond.code objectInit ⟨#[0xb1]⟩ 1 none ∈ wsX2_init := by decide +kernel
theorem hdIX2_init : yX2_init.cls ≠ "java/lang/invoke/MethodHandle" ∧ yX2_init.cls ≠ "java/lang/invoke/VarHandle" ∧ (parseMethodDescriptor yX2_init.desc).map (fun d => d.parameters.length) = some 0 := by decide +kernel
set_option maxHeartbeats 4000000 in
set_option maxRecDepth 100000 in
theorem ctX2_init {l : Launch} {D : va_G} {cI cJ cQ : ClassId} (b : Nat) : CtN l D cI cJ cQ yX2_init wsX2_init rmX2_init b (.inr (2, [.int 0])) (fun u => wLo u 0) 0 0 := by
  refine ctN_of (cc := cX2_init) (by decide) rfl rfl ?_
  intro p e s m args below meth c A Q ls F hK hO hin hA RET hH hl
  obtain ⟨hx, hb, hml, hown, hts⟩ := id F
  obtain ⟨H, eH⟩ : ∃ H, H = s.heap := ⟨_, rfl⟩
  obtain ⟨locs, eL⟩ : ∃ locs : List Loc, locs = [] := ⟨_, rfl⟩
  have hH : Hs D A s.heap ([(b, .inr (2, [.int 0]))]) H locs := by rw [eH, eL]; exact hH
  rw [← eL]
  suffices hgo : W p l e rmX2_init s m args below meth c H locs 0 0 Q (F0 m 0 ls []) by rw [eH] at hgo; exact hgo
  clear eH eL
  refine lv_aload_n hx hb dX2_init_0 rfl (lv_at hl 0 rfl) ?_
  refine k_objI F hl.1 mbX2_init_o1 mbX2_init_o2 mbX2_init_o3 dX2_init_1 (Nat.le_of_ble_eq_true rfl) (Nat.le_of_ble_eq_true rfl) ?_
  refine W.widen (k := 0) (n := 0) (Nat.le_of_ble_eq_true rfl) (Nat.le_of_ble_eq_true rfl) ?_
  exact RET (fun k => [b].getD k 0) H locs ls 4 rfl dX2_init_4 hH

def rmX4_init : Room := { frames := 1, cells := 8, slots := 334, locals := 12 }
theorem mbX4_init_o1 : Cond.methodLink RX4 1 objectInit ∈ wsX4_init := by decide +kernel
theorem mbX4_init_o2 : Cond.instanceMethod objectInit ∈ wsX4_init := by decide +kernel
theorem mbX4_init_o3 : Cond.code objectInit ⟨#[0xb1]⟩ 1 none ∈ wsX4_init := by decide +kernel
theorem mbX4_init_aint : Cond.arrayClass .int ∈ wsX4_init := by decide +kernel
theorem inX4_init_X4 : ∀ w ∈ wsX40, w ∈ wsX4_init := by decide +kernel
theorem mbX4_init_f9 : Cond.fieldLink RX4 9 (TX4 0).1 (TX4 0).2.1 (TX4 0).2.2.1 ∈ wsX4_init := by decide +kernel
theorem mbX4_init_f13 : Cond.fieldLink RX4 13 (TX4 1).1 (TX4 1).2.1 (TX4 1).2.2.1 ∈ wsX4_init := by decide +kernel
theorem mbX4_init_f16 : Cond.fieldLink RX4 16 (TX4 2).1 (TX4 2).2.1 (TX4 2).2.2.1 ∈ wsX4_init := by decide +kernel
theorem mbX4_init_f19 : Cond.fieldLink RX4 19 (TX4 3).1 (TX4 3).2.1 (TX4 3).2.2.1 ∈ wsX4_init := by decide +kernel
theorem mbX4_init_f22 : Cond.fieldLink RX4 22 (TX4 5).1 (TX4 5).2.1 (TX4 5).2.2.1 ∈ wsX4_init := by decide +kernel
theorem mbX4_init_f25 : Cond.fieldLink RX4 25 (TX4 6).1 (TX4 6).2.1 (TX4 6).2.2.1 ∈ wsX4_init := by decide +kernel
theorem mbX4_init_f28 : Cond.fieldLink RX4 28 (TX4 7).1 (TX4 7).2.1 (TX4 7).2.2.1 ∈ wsX4_init := by decide +kernel
theorem mbX4_init_f31 : Cond.fieldLink RX4 31 (TX4 11).1 (TX4 11).2.1 (TX4 11).2.2.1 ∈ wsX4_init := by decide +kernel
theorem hdIX4_init : yX4_init.cls ≠ "java/lang/invoke/MethodHandle" ∧ yX4_init.cls ≠ "java/lang/invoke/VarHandle" ∧ (parseMethodDescriptor yX4_init.desc).map (fun d => d.parameters.length) = some 0 := by decide +kernel
set_option maxHeartbeats 4000000 in
set_option maxRecDepth 100000 in
theorem ctX4_init {l : Launch} {D : va_G} {cI cJ cQ : ClassId} (b : Nat) : CtN l D cI cJ cQ yX4_init wsX4_init rmX4_init b (.inr (4, [.null, .null, .null, .null, .int 0, .null, .null, .null, .int 0, .int 0, .int 0, .null, .int 0])) (fun u => wMd cI u (upd (fun _ => 0) (Int32.toNatClampNeg 2) 16) (fun _ => 0) (fun _ => 0) (fun _ => 0) 0 (fun _ => 0) (fun _ => 0) (fun _ => 0) 0 0 0 (fun _ => 0) 0) 8 334 := by
  refine ctN_of (cc := cX4_init) (by decide) rfl rfl ?_
  intro p e s m args below meth c A Q ls F hK hO hin hA RET hH hl
  obtain ⟨hx, hb, hml, hown, hts⟩ := id F
  obtain ⟨H, eH⟩ : ∃ H, H = s.heap := ⟨_, rfl⟩
  obtain ⟨locs, eL⟩ : ∃ locs : List Loc, locs = [] := ⟨_, rfl⟩
  have hH : Hs D A s.heap ([(b, .inr (4, [.null, .null, .null, .null, .int 0, .null, .null, .null, .int 0, .int 0, .int 0, .null, .int 0]))]) H locs := by rw [eH, eL]; exact hH
  rw [← eL]
  suffices hgo : W p l e rmX4_init s m args below meth c H locs 0 0 Q (F0 m 0 ls []) by rw [eH] at hgo; exact hgo
  clear eH eL
  refine lv_aload_n hx hb dX4_init_0 rfl (lv_at hl 0 rfl) ?_
  refine k_objI F hl.1 mbX4_init_o1 mbX4_init_o2 mbX4_init_o3 dX4_init_1 (Nat.le_of_ble_eq_true rfl) (Nat.le_of_ble_eq_true rfl) ?_
  refine lv_aload_n hx hb dX4_init_4 rfl (lv_at hl 0 rfl) ?_
  refine lv_bipush (v := 53) hx hb dX4_init_5 (by decide) ?_
  refine k_newI (N := 53) F hK hH hA mbX4_init_aint dX4_init_7 (by decide) rfl (by decide) (Nat.le_of_ble_eq_true rfl) (Nat.le_of_ble_eq_true rfl) (fun q1 H hH => ?_)
  have hH : Hs D A s.heap ([(b, .inr (4, [.null, .null, .null, .null, .int 0, .null, .null, .null, .int 0, .int 0, .int 0, .null, .int 0]))] ++ [(q1, .inl (cI, 53, .inl (fun _ => 0)))]) H locs := hH
  refine k_putF (v := .ref q1) F hK hH hin 0 inX4_init_X4 tyX4 tyX4_ok nmX4 0 mbX4_init_f9 dX4_init_9 rfl rfl (by decide) rfl rfl rfl rfl (Nat.le_of_ble_eq_true rfl) (fun H locs hH => ?_)
  have hH : Hs D A s.heap ([(b, .inr (4, [.ref q1, .null, .null, .null, .int 0, .null, .null, .null, .int 0, .int 0, .int 0, .null, .int 0]))] ++ [(q1, .inl (cI, 53, .inl (fun _ => 0)))]) H locs := hH
  refine lv_aload_n hx hb dX4_init_12 rfl (lv_at hl 0 rfl) ?_
  refine lv_bipush (v := 53) hx hb dX4_init_13 (by decide) ?_
  refine k_newI (N := 53) F hK hH hA mbX4_init_aint dX4_init_15 (by decide) rfl (by decide) (Nat.le_of_ble_eq_true rfl) (Nat.le_of_ble_eq_true rfl) (fun q2 H hH => ?_)
  have hH : Hs D A s.heap ([(b, .inr (4, [.ref q1, .null, .null, .null, .int 0, .null, .null, .null, .int 0, .int 0, .int 0, .null, .int 0]))] ++ [(q1, .inl (cI, 53, .inl (fun _ => 0)))] ++ [(q2, .inl (cI, 53, .inl (fun _ => 0)))]) H locs := hH
  refine k_putF (v := .ref q2) F hK hH hin 0 inX4_init_X4 tyX4 tyX4_ok nmX4 1 mbX4_init_f13 dX4_init_17 rfl rfl (by decide) rfl rfl rfl rfl (Nat.le_of_ble_eq_true rfl) (fun H locs hH => ?_)
  have hH : Hs D A s.heap ([(b, .inr (4, [.ref q1, .ref q2, .null, .null, .int 0, .null, .null, .null, .int 0, .int 0, .int 0, .null, .int 0]))] ++ [(q1, .inl (cI, 53, .inl (fun _ => 0)))] ++ [(q2, .inl (cI, 53, .inl (fun _ => 0)))]) H locs := hH
  refine lv_aload_n hx hb dX4_init_20 rfl (lv_at hl 0 rfl) ?_
  refine lv_bipush (v := 53) hx hb dX4_init_21 (by decide) ?_
  refine k_newI (N := 53) F hK hH hA mbX4_init_aint dX4_init_23 (by decide) rfl (by decide) (Nat.le_of_ble_eq_true rfl) (Nat.le_of_ble_eq_true rfl) (fun q3 H hH => ?_)
  have hH : Hs D A s.heap ([(b, .inr (4, [.ref q1, .ref q2, .null, .null, .int 0, .null, .null, .null, .int 0, .int 0, .int 0, .null, .int 0]))] ++ [(q1, .inl (cI, 53, .inl (fun _ => 0)))] ++ [(q2, .inl (cI, 53, .inl (fun _ => 0)))] ++ [(q3, .inl (cI, 53, .inl (fun _ => 0)))]) H locs := hH
  refine k_putF (v := .ref q3) F hK hH hin 0 inX4_init_X4 tyX4 tyX4_ok nmX4 2 mbX4_init_f16 dX4_init_25 rfl rfl (by decide) rfl rfl rfl rfl (Nat.le_of_ble_eq_true rfl) (fun H locs hH => ?_)
  have hH : Hs D A s.heap ([(b, .inr (4, [.ref q1, .ref q2, .ref q3, .null, .int 0, .null, .null, .null, .int 0, .int 0, .int 0, .null, .int 0]))] ++ [(q1, .inl (cI, 53, .inl (fun _ => 0)))] ++ [(q2, .inl (cI, 53, .inl (fun _ => 0)))] ++ [(q3, .inl (cI, 53, .inl (fun _ => 0)))]) H locs := hH
  refine lv_aload_n hx hb dX4_init_28 rfl (lv_at hl 0 rfl) ?_
  refine lv_bipush (v := 53) hx hb dX4_init_29 (by decide) ?_
  refine k_newI (N := 53) F hK hH hA mbX4_init_aint dX4_init_31 (by decide) rfl (by decide) (Nat.le_of_ble_eq_true rfl) (Nat.le_of_ble_eq_true rfl) (fun q4 H hH => ?_)
  have hH : Hs D A s.heap ([(b, .inr (4, [.ref q1, .ref q2, .ref q3, .null, .int 0, .null, .null, .null, .int 0, .int 0, .int 0, .null, .int 0]))] ++ [(q1, .inl (cI, 53, .inl (fun _ => 0)))] ++ [(q2, .inl (cI, 53, .inl (fun _ => 0)))] ++ [(q3, .inl (cI, 53, .inl (fun _ => 0)))] ++ [(q4, .inl (cI, 53, .inl (fun _ => 0)))]) H locs := hH
  refine k_putF (v := .ref q4) F hK hH hin 0 inX4_init_X4 tyX4 tyX4_ok nmX4 3 mbX4_init_f19 dX4_init_33 rfl rfl (by decide) rfl rfl rfl rfl (Nat.le_of_ble_eq_true rfl) (fun H locs hH => ?_)
  have hH : Hs D A s.heap ([(b, .inr (4, [.ref q1, .ref q2, .ref q3, .ref q4, .int 0, .null, .null, .null, .int 0, .int 0, .int 0, .null, .int 0]))] ++ [(q1, .inl (cI, 53, .inl (fun _ => 0)))] ++ [(q2, .inl (cI, 53, .inl (fun _ => 0)))] ++ [(q3, .inl (cI, 53, .inl (fun _ => 0)))] ++ [(q4, .inl (cI, 53, .inl (fun _ => 0)))]) H locs := hH
  refine lv_aload_n hx hb dX4_init_36 rfl (lv_at hl 0 rfl) ?_
  refine lv_bipush (v := 96) hx hb dX4_init_37 (by decide) ?_
  refine k_newI (N := 96) F hK hH hA mbX4_init_aint dX4_init_39 (by decide) rfl (by decide) (Nat.le_of_ble_eq_true rfl) (Nat.le_of_ble_eq_true rfl) (fun q5 H hH => ?_)
  have hH : Hs D A s.heap ([(b, .inr (4, [.ref q1, .ref q2, .ref q3, .ref q4, .int 0, .null, .null, .null, .int 0, .int 0, .int 0, .null, .int 0]))] ++ [(q1, .inl (cI, 53, .inl (fun _ => 0)))] ++ [(q2, .inl (cI, 53, .inl (fun _ => 0)))] ++ [(q3, .inl (cI, 53, .inl (fun _ => 0)))] ++ [(q4, .inl (cI, 53, .inl (fun _ => 0)))] ++ [(q5, .inl (cI, 96, .inl (fun _ => 0)))]) H locs := hH
  refine k_putF (v := .ref q5) F hK hH hin 0 inX4_init_X4 tyX4 tyX4_ok nmX4 5 mbX4_init_f22 dX4_init_41 rfl rfl (by decide) rfl rfl rfl rfl (Nat.le_of_ble_eq_true rfl) (fun H locs hH => ?_)
  have hH : Hs D A s.heap ([(b, .inr (4, [.ref q1, .ref q2, .ref q3, .ref q4, .int 0, .ref q5, .null, .null, .int 0, .int 0, .int 0, .null, .int 0]))] ++ [(q1, .inl (cI, 53, .inl (fun _ => 0)))] ++ [(q2, .inl (cI, 53, .inl (fun _ => 0)))] ++ [(q3, .inl (cI, 53, .inl (fun _ => 0)))] ++ [(q4, .inl (cI, 53, .inl (fun _ => 0)))] ++ [(q5, .inl (cI, 96, .inl (fun _ => 0)))]) H locs := hH
  refine lv_aload_n hx hb dX4_init_44 rfl (lv_at hl 0 rfl) ?_
  refine lv_bipush (v := 16) hx hb dX4_init_45 (by decide) ?_
  refine k_newI (N := 16) F hK hH hA mbX4_init_aint dX4_init_47 (by decide) rfl (by decide) (Nat.le_of_ble_eq_true rfl) (Nat.le_of_ble_eq_true rfl) (fun q6 H hH => ?_)
  have hH : Hs D A s.heap ([(b, .inr (4, [.ref q1, .ref q2, .ref q3, .ref q4, .int 0, .ref q5, .null, .null, .int 0, .int 0, .int 0, .null, .int 0]))] ++ [(q1, .inl (cI, 53, .inl (fun _ => 0)))] ++ [(q2, .inl (cI, 53, .inl (fun _ => 0)))] ++ [(q3, .inl (cI, 53, .inl (fun _ => 0)))] ++ [(q4, .inl (cI, 53, .inl (fun _ => 0)))] ++ [(q5, .inl (cI, 96, .inl (fun _ => 0)))] ++ [(q6, .inl (cI, 16, .inl (fun _ => 0)))]) H locs := hH
  refine k_putF (v := .ref q6) F hK hH hin 0 inX4_init_X4 tyX4 tyX4_ok nmX4 6 mbX4_init_f25 dX4_init_49 rfl rfl (by decide) rfl rfl rfl rfl (Nat.le_of_ble_eq_true rfl) (fun H locs hH => ?_)
  have hH : Hs D A s.heap ([(b, .inr (4, [.ref q1, .ref q2, .ref q3, .ref q4, .int 0, .ref q5, .ref q6, .null, .int 0, .int 0, .int 0, .null, .int 0]))] ++ [(q1, .inl (cI, 53, .inl (fun _ => 0)))] ++ [(q2, .inl (cI, 53, .inl (fun _ => 0)))] ++ [(q3, .inl (cI, 53, .inl (fun _ => 0)))] ++ [(q4, .inl (cI, 53, .inl (fun _ => 0)))] ++ [(q5, .inl (cI, 96, .inl (fun _ => 0)))] ++ [(q6, .inl (cI, 16, .inl (fun _ => 0)))]) H locs := hH
  refine lv_aload_n hx hb dX4_init_52 rfl (lv_at hl 0 rfl) ?_
  refine lv_bipush (v := 7) hx hb dX4_init_53 (by decide) ?_
  refine k_newI (N := 7) F hK hH hA mbX4_init_aint dX4_init_55 (by decide) rfl (by decide) (Nat.le_of_ble_eq_true rfl) (Nat.le_of_ble_eq_true rfl) (fun q7 H hH => ?_)
  have hH : Hs D A s.heap ([(b, .inr (4, [.ref q1, .ref q2, .ref q3, .ref q4, .int 0, .ref q5, .ref q6, .null, .int 0, .int 0, .int 0, .null, .int 0]))] ++ [(q1, .inl (cI, 53, .inl (fun _ => 0)))] ++ [(q2, .inl (cI, 53, .inl (fun _ => 0)))] ++ [(q3, .inl (cI, 53, .inl (fun _ => 0)))] ++ [(q4, .inl (cI, 53, .inl (fun _ => 0)))] ++ [(q5, .inl (cI, 96, .inl (fun _ => 0)))] ++ [(q6, .inl (cI, 16, .inl (fun _ => 0)))] ++ [(q7, .inl (cI, 7, .inl (fun _ => 0)))]) H locs := hH
  refine k_putF (v := .ref q7) F hK hH hin 0 inX4_init_X4 tyX4 tyX4_ok nmX4 7 mbX4_init_f28 dX4_init_57 rfl rfl (by decide) rfl rfl rfl rfl (Nat.le_of_ble_eq_true rfl) (fun H locs hH => ?_)
  have hH : Hs D A s.heap ([(b, .inr (4, [.ref q1, .ref q2, .ref q3, .ref q4, .int 0, .ref q5, .ref q6, .ref q7, .int 0, .int 0, .int 0, .null, .int 0]))] ++ [(q1, .inl (cI, 53, .inl (fun _ => 0)))] ++ [(q2, .inl (cI, 53, .inl (fun _ => 0)))] ++ [(q3, .inl (cI, 53, .inl (fun _ => 0)))] ++ [(q4, .inl (cI, 53, .inl (fun _ => 0)))] ++ [(q5, .inl (cI, 96, .inl (fun _ => 0)))] ++ [(q6, .inl (cI, 16, .inl (fun _ => 0)))] ++ [(q7, .inl (cI, 7, .inl (fun _ => 0)))]) H locs := hH
  refine lv_aload_n hx hb dX4_init_60 rfl (lv_at hl 0 rfl) ?_
  refine lv_iconst (v := 3) hx hb dX4_init_61 (by decide) ?_
  refine k_newI (N := 3) F hK hH hA mbX4_init_aint dX4_init_62 (by decide) rfl (by decide) (Nat.le_of_ble_eq_true rfl) (Nat.le_of_ble_eq_true rfl) (fun q8 H hH => ?_)
  have hH : Hs D A s.heap ([(b, .inr (4, [.ref q1, .ref q2, .ref q3, .ref q4, .int 0, .ref q5, .ref q6, .ref q7, .int 0, .int 0, .int 0, .null, .int 0]))] ++ [(q1, .inl (cI, 53, .inl (fun _ => 0)))] ++ [(q2, .inl (cI, 53, .inl (fun _ => 0)))] ++ [(q3, .inl (cI, 53, .inl (fun _ => 0)))] ++ [(q4, .inl (cI, 53, .inl (fun _ => 0)))] ++ [(q5, .inl (cI, 96, .inl (fun _ => 0)))] ++ [(q6, .inl (cI, 16, .inl (fun _ => 0)))] ++ [(q7, .inl (cI, 7, .inl (fun _ => 0)))] ++ [(q8, .inl (cI, 3, .inl (fun _ => 0)))]) H locs := hH
  refine k_putF (v := .ref q8) F hK hH hin 0 inX4_init_X4 tyX4 tyX4_ok nmX4 11 mbX4_init_f31 dX4_init_64 rfl rfl (by decide) rfl rfl rfl rfl (Nat.le_of_ble_eq_true rfl) (fun H locs hH => ?_)
  have hH : Hs D A s.heap ([(b, .inr (4, [.ref q1, .ref q2, .ref q3, .ref q4, .int 0, .ref q5, .ref q6, .ref q7, .int 0, .int 0, .int 0, .ref q8, .int 0]))] ++ [(q1, .inl (cI, 53, .inl (fun _ => 0)))] ++ [(q2, .inl (cI, 53, .inl (fun _ => 0)))] ++ [(q3, .inl (cI, 53, .inl (fun _ => 0)))] ++ [(q4, .inl (cI, 53, .inl (fun _ => 0)))] ++ [(q5, .inl (cI, 96, .inl (fun _ => 0)))] ++ [(q6, .inl (cI, 16, .inl (fun _ => 0)))] ++ [(q7, .inl (cI, 7, .inl (fun _ => 0)))] ++ [(q8, .inl (cI, 3, .inl (fun _ => 0)))]) H locs := hH
  refine lv_aload_n hx hb dX4_init_67 rfl (lv_at hl 0 rfl) ?_
  refine k_get (v := .ref q1) F hK hH 0 inX4_init_X4 0 mbX4_init_f9 dX4_init_68 rfl rfl (by decide) rfl ?_
  refine lv_iconst (v := 2) hx hb dX4_init_71 (by decide) ?_
  refine lv_bipush (v := 16) hx hb dX4_init_72 (by decide) ?_
  refine k_iast (f := fun _ => 0) (n := 53) F hK hH 1 dX4_init_74 (by decide) rfl (fun H locs hH => ?_)
  have hH : Hs D A s.heap ([(b, .inr (4, [.ref q1, .ref q2, .ref q3, .ref q4, .int 0, .ref q5, .ref q6, .ref q7, .int 0, .int 0, .int 0, .ref q8, .int 0]))] ++ [(q1, .inl (cI, 53, .inl (upd (fun _ => 0) (Int32.toNatClampNeg 2) 16)))] ++ [(q2, .inl (cI, 53, .inl (fun _ => 0)))] ++ [(q3, .inl (cI, 53, .inl (fun _ => 0)))] ++ [(q4, .inl (cI, 53, .inl (fun _ => 0)))] ++ [(q5, .inl (cI, 96, .inl (fun _ => 0)))] ++ [(q6, .inl (cI, 16, .inl (fun _ => 0)))] ++ [(q7, .inl (cI, 7, .inl (fun _ => 0)))] ++ [(q8, .inl (cI, 3, .inl (fun _ => 0)))]) H locs := hH
  refine W.widen (k := 8) (n := 334) (Nat.le_of_ble_eq_true rfl) (Nat.le_of_ble_eq_true rfl) ?_
  exact RET (fun k => [b, q1, q2, q3, q4, q5, q6, q7, q8].getD k 0) H locs ls 75 rfl dX4_init_75 hH

def rmX3_init : Room := { frames := 2, cells := 34, slots := 374, locals := 32 }
theorem mbX3_init_o1 : Cond.methodLink RX3 1 objectInit ∈ wsX3_init := by decide +kernel
theorem mbX3_init_o2 : Cond.instanceMethod objectInit ∈ wsX3_init := by decide +kernel
theorem mbX3_init_o3 : Cond.code objectInit ⟨#[0xb1]⟩ 1 none ∈ wsX3_init := by decide +kernel
theorem mbX3_init_cl7 : Cond.classLink RX3 7 RX0 ∈ wsX3_init := by decide +kernel
theorem mbX3_init_insX0 : Cond.instantiable RX0 11 ∈ wsX3_init := by decide +kernel
theorem mbX3_init_iniX0 : Cond.initialized RX0 ∈ wsX3_init := by decide +kernel
theorem inX3_init_X0 : ∀ w ∈ wsX00, w ∈ wsX3_init := by decide +kernel
theorem mbX3_init_imX0 : Cond.instanceMethod yX0_init ∈ wsX3_init := by decide +kernel
theorem mbX3_init_mlX0 : Cond.methodLink RX3 9 yX0_init ∈ wsX3_init := by decide +kernel
theorem inX3_init_X3 : ∀ w ∈ wsX30, w ∈ wsX3_init := by decide +kernel
theorem mbX3_init_f10 : Cond.fieldLink RX3 10 (TX3 0).1 (TX3 0).2.1 (TX3 0).2.2.1 ∈ wsX3_init := by decide +kernel
theorem mbX3_init_f16 : Cond.fieldLink RX3 16 (TX3 1).1 (TX3 1).2.1 (TX3 1).2.2.1 ∈ wsX3_init := by decide +kernel
theorem mbX3_init_f19 : Cond.fieldLink RX3 19 (TX3 2).1 (TX3 2).2.1 (TX3 2).2.2.1 ∈ wsX3_init := by decide +kernel
theorem mbX3_init_cl22 : Cond.classLink RX3 22 RX1 ∈ wsX3_init := by decide +kernel
theorem mbX3_init_insX1 : Cond.instantiable RX1 2 ∈ wsX3_init := by decide +kernel
theorem mbX3_init_iniX1 : Cond.initialized RX1 ∈ wsX3_init := by decide +kernel
theorem inX3_init_X1 : ∀ w ∈ wsX10, w ∈ wsX3_init := by decide +kernel
theorem mbX3_init_imX1 : Cond.instanceMethod yX1_init ∈ wsX3_init := by decide +kernel
theorem mbX3_init_f25 : Cond.fieldLink RX3 25 (TX3 3).1 (TX3 3).2.1 (TX3 3).2.2.1 ∈ wsX3_init := by decide +kernel
theorem mbX3_init_cl29 : Cond.classLink RX3 29 RX2 ∈ wsX3_init := by decide +kernel
theorem mbX3_init_insX2 : Cond.instantiable RX2 1 ∈ wsX3_init := by decide +kernel
theorem mbX3_init_iniX2 : Cond.initialized RX2 ∈ wsX3_init := by decide +kernel
theorem inX3_init_X2 : ∀ w ∈ wsX20, w ∈ wsX3_init := by decide +kernel
theorem mbX3_init_imX2 : Cond.instanceMethod yX2_init ∈ wsX3_init := by decide +kernel
theorem mbX3_init_f32 : Cond.fieldLink RX3 32 (TX3 4).1 (TX3 4).2.1 (TX3 4).2.2.1 ∈ wsX3_init := by decide +kernel
theorem mbX3_init_aint : Cond.arrayClass .int ∈ wsX3_init := by decide +kernel
theorem mbX3_init_f36 : Cond.fieldLink RX3 36 (TX3 5).1 (TX3 5).2.1 (TX3 5).2.2.1 ∈ wsX3_init := by decide +kernel
theorem mbX3_init_f40 : Cond.fieldLink RX3 40 (TX3 6).1 (TX3 6).2.1 (TX3 6).2.2.1 ∈ wsX3_init := by decide +kernel
theorem mbX3_init_f43 : Cond.fieldLink RX3 43 (TX3 7).1 (TX3 7).2.1 (TX3 7).2.2.1 ∈ wsX3_init := by decide +kernel
theorem mbX3_init_along : Cond.arrayClass .long ∈ wsX3_init := by decide +kernel
theorem mbX3_init_f46 : Cond.fieldLink RX3 46 (TX3 8).1 (TX3 8).2.1 (TX3 8).2.2.1 ∈ wsX3_init := by decide +kernel
theorem mbX3_init_cm : Cond.classLink RX3 50 "[[I" ∈ wsX3_init := by decide +kernel
theorem mbX3_init_f52 : Cond.fieldLink RX3 52 (TX3 9).1 (TX3 9).2.1 (TX3 9).2.2.1 ∈ wsX3_init := by decide +kernel
theorem hdIX3_init : yX3_init.cls ≠ "java/lang/invoke/MethodHandle" ∧ yX3_init.cls ≠ "java/lang/invoke/VarHandle" ∧ (parseMethodDescriptor yX3_init.desc).map (fun d => d.parameters.length) = some 0 := by decide +kernel
set_option maxHeartbeats 4000000 in
set_option maxRecDepth 100000 in
theorem ctX3_init {l : Launch} {D : va_G} {cI cJ cQ : ClassId} (b : Nat) : CtN l D cI cJ cQ yX3_init wsX3_init rmX3_init b (.inr (3, [.null, .null, .null, .null, .null, .null, .null, .null, .null, .null, .int 0, .int 0])) (fun u => wMn cI cJ cQ u gI gI gI (fun _ => 0) 0 0 (fun _ => 0) (fun _ => 0) (fun _ => 0) (fun _ => 0) (fun _ => 0) (fun _ => 0) 0 0) 34 374 := by
  refine ctN_of (cc := cX3_init) (by decide) rfl rfl ?_
  intro p e s m args below meth c A Q ls F hK hO hin hA RET hH hl
  obtain ⟨hx, hb, hml, hown, hts⟩ := id F
  obtain ⟨H, eH⟩ : ∃ H, H = s.heap := ⟨_, rfl⟩
  obtain ⟨locs, eL⟩ : ∃ locs : List Loc, locs = [] := ⟨_, rfl⟩
  have hH : Hs D A s.heap ([(b, .inr (3, [.null, .null, .null, .null, .null, .null, .null, .null, .null, .null, .int 0, .int 0]))]) H locs := by rw [eH, eL]; exact hH
  rw [← eL]
  suffices hgo : W p l e rmX3_init s m args below meth c H locs 0 0 Q (F0 m 0 ls []) by rw [eH] at hgo; exact hgo
  clear eH eL
  refine lv_aload_n hx hb dX3_init_0 rfl (lv_at hl 0 rfl) ?_
  refine k_objI F hl.1 mbX3_init_o1 mbX3_init_o2 mbX3_init_o3 dX3_init_1 (Nat.le_of_ble_eq_true rfl) (Nat.le_of_ble_eq_true rfl) ?_
  refine lv_aload_n hx hb dX3_init_4 rfl (lv_at hl 0 rfl) ?_
  refine k_newC (ci := 0) (C := RX0) (T := TX0) (N := 11) F hK hH hA [.null, .null, .null, .null, .null, .null, .null, .int 0, .int 0, .int 0, .int 0] inX3_init_X0 tyX0 tyX0_ok mbX3_init_cl7 mbX3_init_insX0 mbX3_init_iniX0 dX3_init_5 rfl (fun j hj => by rcases (show j = 0 ∨ j = 1 ∨ j = 2 ∨ j = 3 ∨ j = 4 ∨ j = 5 ∨ j = 6 ∨ j = 7 ∨ j = 8 ∨ j = 9 ∨ j = 10 by omega) with rfl | rfl | rfl | rfl | rfl | rfl | rfl | rfl | rfl | rfl | rfl <;> rfl) (Nat.le_of_ble_eq_true rfl) (Nat.le_of_ble_eq_true rfl) (fun q1 H hH => ?_)
  refine lv_dup hx hb dX3_init_8 rfl ?_
  refine k_I F hK hO hA hl.1 [.ref q1, .ref b] (wr := [(b, .inr (3, [.null, .null, .null, .null, .null, .null, .null, .null, .null, .null, .int 0, .int 0]))]) hH (ctX0_init q1) (cwI 0 hts gX3_init_X0_init rfl rfl rfl (hts _ mbX3_init_iniX0) (hts _ mbX3_init_mlX0) (hts _ mbX3_init_imX0) rfl hdIX0_init ⟨(Nat.le_of_ble_eq_true rfl), (Nat.le_of_ble_eq_true rfl)⟩) dX3_init_9 rfl (Nat.le_of_ble_eq_true rfl) ⟨(Nat.le_of_ble_eq_true rfl), (Nat.le_of_ble_eq_true rfl)⟩ (fun u1 H locs hu hG => ?_)
  subst hu
  have hH : Hs D A s.heap ([(b, .inr (3, [.null, .null, .null, .null, .null, .null, .null, .null, .null, .null, .int 0, .int 0]))] ++ wLd cI u1 gI) H locs := hG
  refine k_putF (v := .ref (u1 0)) F hK hH hin 0 inX3_init_X3 tyX3 tyX3_ok nmX3 0 mbX3_init_f10 dX3_init_12 rfl rfl (by decide) rfl rfl rfl rfl (Nat.le_of_ble_eq_true rfl) (fun H locs hH => ?_)
  have hH : Hs D A s.heap ([(b, .inr (3, [.ref (u1 0), .null, .null, .null, .null, .null, .null, .null, .null, .null, .int 0, .int 0]))] ++ wLd cI u1 gI) H locs := hH
  refine lv_aload_n hx hb dX3_init_15 rfl (lv_at hl 0 rfl) ?_
  refine k_newC (ci := 0) (C := RX0) (T := TX0) (N := 11) F hK hH hA [.null, .null, .null, .null, .null, .null, .null, .int 0, .int 0, .int 0, .int 0] inX3_init_X0 tyX0 tyX0_ok mbX3_init_cl7 mbX3_init_insX0 mbX3_init_iniX0 dX3_init_16 rfl (fun j hj => by rcases (show j = 0 ∨ j = 1 ∨ j = 2 ∨ j = 3 ∨ j = 4 ∨ j = 5 ∨ j = 6 ∨ j = 7 ∨ j = 8 ∨ j = 9 ∨ j = 10 by omega) with rfl | rfl | rfl | rfl | rfl | rfl | rfl | rfl | rfl | rfl | rfl <;> rfl) (Nat.le_of_ble_eq_true rfl) (Nat.le_of_ble_eq_true rfl) (fun q2 H hH => ?_)
  refine lv_dup hx hb dX3_init_19 rfl ?_
  refine k_I F hK hO hA hl.1 [.ref q2, .ref b] (wr := [(b, .inr (3, [.ref (u1 0), .null, .null, .null, .null, .null, .null, .null, .null, .null, .int 0, .int 0]))] ++ wLd cI u1 gI) hH (ctX0_init q2) (cwI 0 hts gX3_init_X0_init rfl rfl rfl (hts _ mbX3_init_iniX0) (hts _ mbX3_init_mlX0) (hts _ mbX3_init_imX0) rfl hdIX0_init ⟨(Nat.le_of_ble_eq_true rfl), (Nat.le_of_ble_eq_true rfl)⟩) dX3_init_20 rfl (Nat.le_of_ble_eq_true rfl) ⟨(Nat.le_of_ble_eq_true rfl), (Nat.le_of_ble_eq_true rfl)⟩ (fun u2 H locs hu hG => ?_)
  subst hu
  have hH : Hs D A s.heap ([(b, .inr (3, [.ref (u1 0), .null, .null, .null, .null, .null, .null, .null, .null, .null, .int 0, .int 0]))] ++ wLd cI u1 gI ++ wLd cI u2 gI) H locs := hG
  refine k_putF (v := .ref (u2 0)) F hK hH hin 0 inX3_init_X3 tyX3 tyX3_ok nmX3 1 mbX3_init_f16 dX3_init_23 rfl rfl (by decide) rfl rfl rfl rfl (Nat.le_of_ble_eq_true rfl) (fun H locs hH => ?_)
  have hH : Hs D A s.heap ([(b, .inr (3, [.ref (u1 0), .ref (u2 0), .null, .null, .null, .null, .null, .null, .null, .null, .int 0, .int 0]))] ++ wLd cI u1 gI ++ wLd cI u2 gI) H locs := hH
  refine lv_aload_n hx hb dX3_init_26 rfl (lv_at hl 0 rfl) ?_
  refine k_newC (ci := 0) (C := RX0) (T := TX0) (N := 11) F hK hH hA [.null, .null, .null, .null, .null, .null, .null, .int 0, .int 0, .int 0, .int 0] inX3_init_X0 tyX0 tyX0_ok mbX3_init_cl7 mbX3_init_insX0 mbX3_init_iniX0 dX3_init_27 rfl (fun j hj => by rcases (show j = 0 ∨ j = 1 ∨ j = 2 ∨ j = 3 ∨ j = 4 ∨ j = 5 ∨ j = 6 ∨ j = 7 ∨ j = 8 ∨ j = 9 ∨ j = 10 by omega) with rfl | rfl | rfl | rfl | rfl | rfl | rfl | rfl | rfl | rfl | rfl <;> rfl) (Nat.le_of_ble_eq_true rfl) (Nat.le_of_ble_eq_true rfl) (fun q3 H hH => ?_)
  refine lv_dup hx hb dX3_init_30 rfl ?_
  refine k_I F hK hO hA hl.1 [.ref q3, .ref b] (wr := [(b, .inr (3, [.ref (u1 0), .ref (u2 0), .null, .null, .null, .null, .null, .null, .null, .null, .int 0, .int 0]))] ++ wLd cI u1 gI ++ wLd cI u2 gI) hH (ctX0_init q3) (cwI 0 hts gX3_init_X0_init rfl rfl rfl (hts _ mbX3_init_iniX0) (hts _ mbX3_init_mlX0) (hts _ mbX3_init_imX0) rfl hdIX0_init ⟨(Nat.le_of_ble_eq_true rfl), (Nat.le_of_ble_eq_true rfl)⟩) dX3_init_31 rfl (Nat.le_of_ble_eq_true rfl) ⟨(Nat.le_of_ble_eq_true rfl), (Nat.le_of_ble_eq_true rfl)⟩ (fun u3 H locs hu hG => ?_)
  subst hu
  have hH : Hs D A s.heap ([(b, .inr (3, [.ref (u1 0), .ref (u2 0), .null, .null, .null, .null, .null, .null, .null, .null, .int 0, .int 0]))] ++ wLd cI u1 gI ++ wLd cI u2 gI ++ wLd cI u3 gI) H locs := hG
  refine k_putF (v := .ref (u3 0)) F hK hH hin 0 inX3_init_X3 tyX3 tyX3_ok nmX3 2 mbX3_init_f19 dX3_init_34 rfl rfl (by decide) rfl rfl rfl rfl (Nat.le_of_ble_eq_true rfl) (fun H locs hH => ?_)
  have hH : Hs D A s.heap ([(b, .inr (3, [.ref (u1 0), .ref (u2 0), .ref (u3 0), .null, .null, .null, .null, .null, .null, .null, .int 0, .int 0]))] ++ wLd cI u1 gI ++ wLd cI u2 gI ++ wLd cI u3 gI) H locs := hH
  refine lv_aload_n hx hb dX3_init_37 rfl (lv_at hl 0 rfl) ?_
  refine k_newC (ci := 1) (C := RX1) (T := TX1) (N := 2) F hK hH hA [.null, .int 0] inX3_init_X1 tyX1 tyX1_ok mbX3_init_cl22 mbX3_init_insX1 mbX3_init_iniX1 dX3_init_38 rfl (fun j hj => by rcases (show j = 0 ∨ j = 1 by omega) with rfl | rfl <;> rfl) (Nat.le_of_ble_eq_true rfl) (Nat.le_of_ble_eq_true rfl) (fun q4 H hH => ?_)
  refine lv_dup hx hb dX3_init_41 rfl ?_
  refine k_IN F hK hO hA hl.1 [.ref q4, .ref b] (wr := [(b, .inr (3, [.ref (u1 0), .ref (u2 0), .ref (u3 0), .null, .null, .null, .null, .null, .null, .null, .int 0, .int 0]))] ++ wLd cI u1 gI ++ wLd cI u2 gI ++ wLd cI u3 gI) hH (ctX1_init q4) ⟨va_cnB (host := "LawFromTheTree") 0 hts gX3_init_X1_init_n24 rfl rfl rfl hK.2.2.2.2.2.2.1 (hts _ mbX3_init_iniX1) hdIX1_init ⟨(Nat.le_of_ble_eq_true rfl), (Nat.le_of_ble_eq_true rfl)⟩, rfl, hts _ mbX3_init_imX1⟩ dX3_init_42 rfl (Nat.le_of_ble_eq_true rfl) ⟨(Nat.le_of_ble_eq_true rfl), (Nat.le_of_ble_eq_true rfl)⟩ (fun u4 H locs hu hG => ?_)
  subst hu
  have hH : Hs D A s.heap ([(b, .inr (3, [.ref (u1 0), .ref (u2 0), .ref (u3 0), .null, .null, .null, .null, .null, .null, .null, .int 0, .int 0]))] ++ wLd cI u1 gI ++ wLd cI u2 gI ++ wLd cI u3 gI ++ wLt cI u4 (fun _ => 0) 0) H locs := hG
  refine k_putF (v := .ref (u4 0)) F hK hH hin 0 inX3_init_X3 tyX3 tyX3_ok nmX3 3 mbX3_init_f25 dX3_init_45 rfl rfl (by decide) rfl rfl rfl rfl (Nat.le_of_ble_eq_true rfl) (fun H locs hH => ?_)
  have hH : Hs D A s.heap ([(b, .inr (3, [.ref (u1 0), .ref (u2 0), .ref (u3 0), .ref (u4 0), .null, .null, .null, .null, .null, .null, .int 0, .int 0]))] ++ wLd cI u1 gI ++ wLd cI u2 gI ++ wLd cI u3 gI ++ wLt cI u4 (fun _ => 0) 0) H locs := hH
  refine lv_aload_n hx hb dX3_init_48 rfl (lv_at hl 0 rfl) ?_
  refine k_newC (ci := 2) (C := RX2) (T := TX2) (N := 1) F hK hH hA [.int 0] inX3_init_X2 tyX2 tyX2_ok mbX3_init_cl29 mbX3_init_insX2 mbX3_init_iniX2 dX3_init_49 rfl (fun j hj => by rcases (show j = 0 by omega) with rfl <;> rfl) (Nat.le_of_ble_eq_true rfl) (Nat.le_of_ble_eq_true rfl) (fun q5 H hH => ?_)
  refine lv_dup hx hb dX3_init_52 rfl ?_
  refine k_IN F hK hO hA hl.1 [.ref q5, .ref b] (wr := [(b, .inr (3, [.ref (u1 0), .ref (u2 0), .ref (u3 0), .ref (u4 0), .null, .null, .null, .null, .null, .null, .int 0, .int 0]))] ++ wLd cI u1 gI ++ wLd cI u2 gI ++ wLd cI u3 gI ++ wLt cI u4 (fun _ => 0) 0) hH (ctX2_init q5) ⟨va_cnB (host := "LawFromTheTree") 0 hts gX3_init_X2_init_n31 rfl rfl rfl hK.2.2.2.2.2.2.2 (hts _ mbX3_init_iniX2) hdIX2_init ⟨(Nat.le_of_ble_eq_true rfl), (Nat.le_of_ble_eq_true rfl)⟩, rfl, hts _ mbX3_init_imX2⟩ dX3_init_53 rfl (Nat.le_of_ble_eq_true rfl) ⟨(Nat.le_of_ble_eq_true rfl), (Nat.le_of_ble_eq_true rfl)⟩ (fun u5 H locs hu hG => ?_)
  subst hu
  have hH : Hs D A s.heap ([(b, .inr (3, [.ref (u1 0), .ref (u2 0), .ref (u3 0), .ref (u4 0), .null, .null, .null, .null, .null, .null, .int 0, .int 0]))] ++ wLd cI u1 gI ++ wLd cI u2 gI ++ wLd cI u3 gI ++ wLt cI u4 (fun _ => 0) 0 ++ wLo u5 0) H locs := hG
  refine k_putF (v := .ref (u5 0)) F hK hH hin 0 inX3_init_X3 tyX3 tyX3_ok nmX3 4 mbX3_init_f32 dX3_init_56 rfl rfl (by decide) rfl rfl rfl rfl (Nat.le_of_ble_eq_true rfl) (fun H locs hH => ?_)
  have hH : Hs D A s.heap ([(b, .inr (3, [.ref (u1 0), .ref (u2 0), .ref (u3 0), .ref (u4 0), .ref (u5 0), .null, .null, .null, .null, .null, .int 0, .int 0]))] ++ wLd cI u1 gI ++ wLd cI u2 gI ++ wLd cI u3 gI ++ wLt cI u4 (fun _ => 0) 0 ++ wLo u5 0) H locs := hH
  refine lv_aload_n hx hb dX3_init_59 rfl (lv_at hl 0 rfl) ?_
  refine lv_bipush (v := 16) hx hb dX3_init_60 (by decide) ?_
  refine k_newI (N := 16) F hK hH hA mbX3_init_aint dX3_init_62 (by decide) rfl (by decide) (Nat.le_of_ble_eq_true rfl) (Nat.le_of_ble_eq_true rfl) (fun q6 H hH => ?_)
  have hH : Hs D A s.heap ([(b, .inr (3, [.ref (u1 0), .ref (u2 0), .ref (u3 0), .ref (u4 0), .ref (u5 0), .null, .null, .null, .null, .null, .int 0, .int 0]))] ++ wLd cI u1 gI ++ wLd cI u2 gI ++ wLd cI u3 gI ++ wLt cI u4 (fun _ => 0) 0 ++ wLo u5 0 ++ [(q6, .inl (cI, 16, .inl (fun _ => 0)))]) H locs := hH
  refine k_putF (v := .ref q6) F hK hH hin 0 inX3_init_X3 tyX3 tyX3_ok nmX3 5 mbX3_init_f36 dX3_init_64 rfl rfl (by decide) rfl rfl rfl rfl (Nat.le_of_ble_eq_true rfl) (fun H locs hH => ?_)
  have hH : Hs D A s.heap ([(b, .inr (3, [.ref (u1 0), .ref (u2 0), .ref (u3 0), .ref (u4 0), .ref (u5 0), .ref q6, .null, .null, .null, .null, .int 0, .int 0]))] ++ wLd cI u1 gI ++ wLd cI u2 gI ++ wLd cI u3 gI ++ wLt cI u4 (fun _ => 0) 0 ++ wLo u5 0 ++ [(q6, .inl (cI, 16, .inl (fun _ => 0)))]) H locs := hH
  refine lv_aload_n hx hb dX3_init_67 rfl (lv_at hl 0 rfl) ?_
  refine lv_bipush (v := 7) hx hb dX3_init_68 (by decide) ?_
  refine k_newI (N := 7) F hK hH hA mbX3_init_aint dX3_init_70 (by decide) rfl (by decide) (Nat.le_of_ble_eq_true rfl) (Nat.le_of_ble_eq_true rfl) (fun q7 H hH => ?_)
  have hH : Hs D A s.heap ([(b, .inr (3, [.ref (u1 0), .ref (u2 0), .ref (u3 0), .ref (u4 0), .ref (u5 0), .ref q6, .null, .null, .null, .null, .int 0, .int 0]))] ++ wLd cI u1 gI ++ wLd cI u2 gI ++ wLd cI u3 gI ++ wLt cI u4 (fun _ => 0) 0 ++ wLo u5 0 ++ [(q6, .inl (cI, 16, .inl (fun _ => 0)))] ++ [(q7, .inl (cI, 7, .inl (fun _ => 0)))]) H locs := hH
  refine k_putF (v := .ref q7) F hK hH hin 0 inX3_init_X3 tyX3 tyX3_ok nmX3 6 mbX3_init_f40 dX3_init_72 rfl rfl (by decide) rfl rfl rfl rfl (Nat.le_of_ble_eq_true rfl) (fun H locs hH => ?_)
  have hH : Hs D A s.heap ([(b, .inr (3, [.ref (u1 0), .ref (u2 0), .ref (u3 0), .ref (u4 0), .ref (u5 0), .ref q6, .ref q7, .null, .null, .null, .int 0, .int 0]))] ++ wLd cI u1 gI ++ wLd cI u2 gI ++ wLd cI u3 gI ++ wLt cI u4 (fun _ => 0) 0 ++ wLo u5 0 ++ [(q6, .inl (cI, 16, .inl (fun _ => 0)))] ++ [(q7, .inl (cI, 7, .inl (fun _ => 0)))]) H locs := hH
  refine lv_aload_n hx hb dX3_init_75 rfl (lv_at hl 0 rfl) ?_
  refine lv_bipush (v := 10) hx hb dX3_init_76 (by decide) ?_
  refine k_newI (N := 10) F hK hH hA mbX3_init_aint dX3_init_78 (by decide) rfl (by decide) (Nat.le_of_ble_eq_true rfl) (Nat.le_of_ble_eq_true rfl) (fun q8 H hH => ?_)
  have hH : Hs D A s.heap ([(b, .inr (3, [.ref (u1 0), .ref (u2 0), .ref (u3 0), .ref (u4 0), .ref (u5 0), .ref q6, .ref q7, .null, .null, .null, .int 0, .int 0]))] ++ wLd cI u1 gI ++ wLd cI u2 gI ++ wLd cI u3 gI ++ wLt cI u4 (fun _ => 0) 0 ++ wLo u5 0 ++ [(q6, .inl (cI, 16, .inl (fun _ => 0)))] ++ [(q7, .inl (cI, 7, .inl (fun _ => 0)))] ++ [(q8, .inl (cI, 10, .inl (fun _ => 0)))]) H locs := hH
  refine k_putF (v := .ref q8) F hK hH hin 0 inX3_init_X3 tyX3 tyX3_ok nmX3 7 mbX3_init_f43 dX3_init_80 rfl rfl (by decide) rfl rfl rfl rfl (Nat.le_of_ble_eq_true rfl) (fun H locs hH => ?_)
  have hH : Hs D A s.heap ([(b, .inr (3, [.ref (u1 0), .ref (u2 0), .ref (u3 0), .ref (u4 0), .ref (u5 0), .ref q6, .ref q7, .ref q8, .null, .null, .int 0, .int 0]))] ++ wLd cI u1 gI ++ wLd cI u2 gI ++ wLd cI u3 gI ++ wLt cI u4 (fun _ => 0) 0 ++ wLo u5 0 ++ [(q6, .inl (cI, 16, .inl (fun _ => 0)))] ++ [(q7, .inl (cI, 7, .inl (fun _ => 0)))] ++ [(q8, .inl (cI, 10, .inl (fun _ => 0)))]) H locs := hH
  refine lv_aload_n hx hb dX3_init_83 rfl (lv_at hl 0 rfl) ?_
  refine lv_bipush (v := 8) hx hb dX3_init_84 (by decide) ?_
  refine k_newJ (N := 8) F hK hH hA mbX3_init_along dX3_init_86 (by decide) rfl (by decide) (Nat.le_of_ble_eq_true rfl) (Nat.le_of_ble_eq_true rfl) (fun q9 H hH => ?_)
  have hH : Hs D A s.heap ([(b, .inr (3, [.ref (u1 0), .ref (u2 0), .ref (u3 0), .ref (u4 0), .ref (u5 0), .ref q6, .ref q7, .ref q8, .null, .null, .int 0, .int 0]))] ++ wLd cI u1 gI ++ wLd cI u2 gI ++ wLd cI u3 gI ++ wLt cI u4 (fun _ => 0) 0 ++ wLo u5 0 ++ [(q6, .inl (cI, 16, .inl (fun _ => 0)))] ++ [(q7, .inl (cI, 7, .inl (fun _ => 0)))] ++ [(q8, .inl (cI, 10, .inl (fun _ => 0)))] ++ [(q9, .inl (cJ, 8, .inr (.inl (fun _ => 0))))]) H locs := hH
  refine k_putF (v := .ref q9) F hK hH hin 0 inX3_init_X3 tyX3 tyX3_ok nmX3 8 mbX3_init_f46 dX3_init_88 rfl rfl (by decide) rfl rfl rfl rfl (Nat.le_of_ble_eq_true rfl) (fun H locs hH => ?_)
  have hH : Hs D A s.heap ([(b, .inr (3, [.ref (u1 0), .ref (u2 0), .ref (u3 0), .ref (u4 0), .ref (u5 0), .ref q6, .ref q7, .ref q8, .ref q9, .null, .int 0, .int 0]))] ++ wLd cI u1 gI ++ wLd cI u2 gI ++ wLd cI u3 gI ++ wLt cI u4 (fun _ => 0) 0 ++ wLo u5 0 ++ [(q6, .inl (cI, 16, .inl (fun _ => 0)))] ++ [(q7, .inl (cI, 7, .inl (fun _ => 0)))] ++ [(q8, .inl (cI, 10, .inl (fun _ => 0)))] ++ [(q9, .inl (cJ, 8, .inr (.inl (fun _ => 0))))]) H locs := hH
  refine lv_aload_n hx hb dX3_init_91 rfl (lv_at hl 0 rfl) ?_
  refine lv_iconst (v := 2) hx hb dX3_init_92 (by decide) ?_
  refine lv_iconst (v := 2) hx hb dX3_init_93 (by decide) ?_
  refine k_mna F hK hO hH hA mbX3_init_cm mbX3_init_aint dX3_init_94 (Nat.le_of_ble_eq_true rfl) (Nat.le_of_ble_eq_true rfl) (fun q10 q10a q10b H hH => ?_)
  have hH : Hs D A s.heap ([(b, .inr (3, [.ref (u1 0), .ref (u2 0), .ref (u3 0), .ref (u4 0), .ref (u5 0), .ref q6, .ref q7, .ref q8, .ref q9, .null, .int 0, .int 0]))] ++ wLd cI u1 gI ++ wLd cI u2 gI ++ wLd cI u3 gI ++ wLt cI u4 (fun _ => 0) 0 ++ wLo u5 0 ++ [(q6, .inl (cI, 16, .inl (fun _ => 0)))] ++ [(q7, .inl (cI, 7, .inl (fun _ => 0)))] ++ [(q8, .inl (cI, 10, .inl (fun _ => 0)))] ++ [(q9, .inl (cJ, 8, .inr (.inl (fun _ => 0))))] ++ [(q10, .inl (cQ, 2, .inr (.inr (.inr (.inr (fun i => if i = 0 then some q10a else some q10b)))))), (q10a, .inl (cI, 2, .inl (fun _ => 0))), (q10b, .inl (cI, 2, .inl (fun _ => 0)))]) H locs := hH
  refine k_putF (v := .ref q10) F hK hH hin 0 inX3_init_X3 tyX3 tyX3_ok nmX3 9 mbX3_init_f52 dX3_init_98 rfl rfl (by decide) rfl rfl rfl rfl (Nat.le_of_ble_eq_true rfl) (fun H locs hH => ?_)
  have hH : Hs D A s.heap ([(b, .inr (3, [.ref (u1 0), .ref (u2 0), .ref (u3 0), .ref (u4 0), .ref (u5 0), .ref q6, .ref q7, .ref q8, .ref q9, .ref q10, .int 0, .int 0]))] ++ wLd cI u1 gI ++ wLd cI u2 gI ++ wLd cI u3 gI ++ wLt cI u4 (fun _ => 0) 0 ++ wLo u5 0 ++ [(q6, .inl (cI, 16, .inl (fun _ => 0)))] ++ [(q7, .inl (cI, 7, .inl (fun _ => 0)))] ++ [(q8, .inl (cI, 10, .inl (fun _ => 0)))] ++ [(q9, .inl (cJ, 8, .inr (.inl (fun _ => 0))))] ++ [(q10, .inl (cQ, 2, .inr (.inr (.inr (.inr (fun i => if i = 0 then some q10a else some q10b)))))), (q10a, .inl (cI, 2, .inl (fun _ => 0))), (q10b, .inl (cI, 2, .inl (fun _ => 0)))]) H locs := hH
  refine W.widen (k := 34) (n := 374) (Nat.le_of_ble_eq_true rfl) (Nat.le_of_ble_eq_true rfl) ?_
  exact RET (fun k => [b, u1 0, u1 1, u1 2, u1 3, u1 4, u1 5, u1 6, u1 7, u2 0, u2 1, u2 2, u2 3, u2 4, u2 5, u2 6, u2 7, u3 0, u3 1, u3 2, u3 3, u3 4, u3 5, u3 6, u3 7, u4 0, u4 1, u5 0, q6, q7, q8, q9, q10, q10a, q10b].getD k 0) H locs ls 101 rfl dX3_init_101 hH

