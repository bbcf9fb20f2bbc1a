def fX0_stepsOf (v1 : Int32) (v2 : Int32) (g : LandT) : Option (Int32) :=
  if ob v1 7 then none else
  if ((gK g) (Int32.toNatClampNeg v1)) = 2 then
    some 1
  else
    if ((gK g) (Int32.toNatClampNeg v1)) = 3 then
      if ob v1 7 then none else
      Option.bind (fX0_divides (((gF g) (Int32.toNatClampNeg v1)) + 2) v2) fun x1 =>
      if x1 = 0 then
        some 0
      else
        some 1
    else
      if ((gK g) (Int32.toNatClampNeg v1)) = 4 then
        some 2
      else
        some 0

def rmX0_stepsOf : Room := { frames := 1, cells := 0, slots := 0, locals := 21 }
theorem mbX0_stepsOf_f18 : Cond.fieldLink RX0 18 (TX0 2).1 (TX0 2).2.1 (TX0 2).2.2.1 ∈ wsX0_stepsOf := by decide +kernel
theorem inX0_stepsOf_X0 : ∀ w ∈ wsX00, w ∈ wsX0_stepsOf := by decide +kernel
theorem mbX0_stepsOf_f21 : Cond.fieldLink RX0 21 (TX0 3).1 (TX0 3).2.1 (TX0 3).2.2.1 ∈ wsX0_stepsOf := by decide +kernel
theorem hdVX0_stepsOf : yX0_stepsOf.cls = RX0 ∧ yX0_stepsOf.cls ≠ "java/lang/invoke/MethodHandle" ∧ yX0_stepsOf.cls ≠ "java/lang/invoke/VarHandle" ∧ (parseMethodDescriptor yX0_stepsOf.desc).map (fun d => d.parameters.length) = some 2 := by decide +kernel
set_option maxHeartbeats 4000000 in
set_option maxRecDepth 100000 in
theorem ctX0_stepsOf {l : Launch} {D : va_G} {cI cJ cQ : ClassId} (ad : Nat → Nat) (g : LandT) (v1 : Int32) (v2 : Int32) {res : Int32} (h : fX0_stepsOf v1 v2 g = some res) : CtI l D cI cJ cQ yX0_stepsOf wsX0_stepsOf rmX0_stepsOf [.ref (ad 0), .int v1, .int v2] (wLd cI ad g) res (wLd cI ad g) := by
  refine ctI_of .int (cc := cX0_stepsOf) (maxL := 3) (by decide) rfl (Nat.le_of_ble_eq_true rfl) ?_
  intro p e s m args below meth c A Q ls F hK hA RET hH hl
  obtain ⟨hx, hb, hml, hown, hts⟩ := id F
  have hl : lv_has ls 3 [(0, .ref (ad 0)), (1, .int v1), (2, .int v2)] := hl
  have hf : wpO (fX0_stepsOf v1 v2 g) (fun v => v = res) := ⟨_, h, rfl⟩
  obtain ⟨H, eH⟩ : ∃ H, H = s.heap := ⟨_, rfl⟩
  obtain ⟨locs, eL⟩ : ∃ locs : List Loc, locs = [] := ⟨_, rfl⟩
  have hH : Hs D A s.heap (wLd cI ad g) H locs := by rw [eH, eL]; exact hH
  rw [← eL]
  suffices hgo : W p l e rmX0_stepsOf s m args below meth c H locs 0 0 Q (F0 m 0 ls []) by rw [eH] at hgo; exact hgo
  clear eH eL
  refine lv_aload_n hx hb dX0_stepsOf_0 rfl (lv_at hl 0 rfl) ?_
  refine k_get (v := .ref (ad 3)) F hK hH 0 inX0_stepsOf_X0 2 mbX0_stepsOf_f18 dX0_stepsOf_1 rfl rfl (by decide) rfl ?_
  refine lv_iload_n hx hb dX0_stepsOf_4 rfl (lv_at hl 1 rfl) ?_
  obtain ⟨hi, hf⟩ := wp_n hf
  refine k_iald (f := gK g) (n := 7) F hK hH 3 dX0_stepsOf_5 hi rfl ?_
  by_cases hc0 : ((gK g) (Int32.toNatClampNeg v1)) = 2
  · have hf := wp_t hc0 hf
    refine lv_tableIn (tgt := 32) hx hb dX0_stepsOf_6 (by rw [hc0]; decide) (by rw [hc0]; decide) (by rw [hc0]; try rfl) (by decide) ?_
    refine lv_iconst (v := 1) hx hb dX0_stepsOf_32 (by decide) ?_
    have hrs := wp_s hf
    subst hrs
    exact RET H locs ls 33 dX0_stepsOf_33 rfl hH
  · have hf := wp_f hc0 hf
    by_cases hc1 : ((gK g) (Int32.toNatClampNeg v1)) = 3
    · have hf := wp_t hc1 hf
      refine lv_tableIn (tgt := 34) hx hb dX0_stepsOf_6 (by rw [hc1]; decide) (by rw [hc1]; decide) (by rw [hc1]; try rfl) (by decide) ?_
      refine lv_aload_n hx hb dX0_stepsOf_34 rfl (lv_at hl 0 rfl) ?_
      refine k_get (v := .ref (ad 4)) F hK hH 0 inX0_stepsOf_X0 3 mbX0_stepsOf_f21 dX0_stepsOf_35 rfl rfl (by decide) rfl ?_
      refine lv_iload_n hx hb dX0_stepsOf_38 rfl (lv_at hl 1 rfl) ?_
      obtain ⟨hi, hf⟩ := wp_n hf
      refine k_iald (f := gF g) (n := 7) F hK hH 4 dX0_stepsOf_39 hi rfl ?_
      refine lv_iconst (v := 2) hx hb dX0_stepsOf_40 (by decide) ?_
      refine lv_iadd hx hb dX0_stepsOf_41 ?_
      refine lv_iload_n hx hb dX0_stepsOf_42 rfl (lv_at hl 2 rfl) ?_
      obtain ⟨x1, hcl, hf⟩ := wp_b hf
      refine k_Si F hK hH hA hl.1 ⟨Nat.zero_le _, Nat.zero_le _⟩ [] [.int (((gF g) (Int32.toNatClampNeg v1)) + 2), .int v2] [] (ctX0_divides (((gF g) (Int32.toNatClampNeg v1)) + 2) v2 hcl) (va_cwS 2 hts gX0_stepsOf_X0_divides rfl rfl rfl hdSX0_divides ⟨Nat.le_of_ble_eq_true rfl, Nat.le_of_ble_eq_true rfl⟩) dX0_stepsOf_43 rfl rfl (Nat.le_of_ble_eq_true rfl) rfl rfl (by decide) (fun H locs hH => ?_)
      have hH : Hs D A s.heap (wLd cI ad g) H locs := hH
      refine lv_if_eq (tgt := 53) hx hb dX0_stepsOf_46 (by decide) (fun hc => ?_) (fun hc => ?_)
      · have hf := wp_t hc hf
        refine lv_iconst (v := 0) hx hb dX0_stepsOf_53 (by decide) ?_
        have hrs := wp_s hf
        subst hrs
        exact RET H locs ls 54 dX0_stepsOf_54 rfl hH
      · have hf := wp_f hc hf
        refine lv_iconst (v := 1) hx hb dX0_stepsOf_49 (by decide) ?_
        refine lv_goto (tgt := 54) hx hb dX0_stepsOf_50 (by decide) ?_
        have hrs := wp_s hf
        subst hrs
        exact RET H locs ls 54 dX0_stepsOf_54 rfl hH
    · have hf := wp_f hc1 hf
      by_cases hc2 : ((gK g) (Int32.toNatClampNeg v1)) = 4
      · have hf := wp_t hc2 hf
        refine lv_tableIn (tgt := 55) hx hb dX0_stepsOf_6 (by rw [hc2]; decide) (by rw [hc2]; decide) (by rw [hc2]; try rfl) (by decide) ?_
        refine lv_iconst (v := 2) hx hb dX0_stepsOf_55 (by decide) ?_
        have hrs := wp_s hf
        subst hrs
        exact RET H locs ls 56 dX0_stepsOf_56 rfl hH
      · have hf := wp_f hc2 hf
        have hs0 := sw_ne hc0 (show (2 : Int32).toInt = 2 from rfl)
        have hs1 := sw_ne hc1 (show (3 : Int32).toInt = 3 from rfl)
        have hs2 := sw_ne hc2 (show (4 : Int32).toInt = 4 from rfl)
        refine lv_tableOut (tgt := 57) hx hb dX0_stepsOf_6 (by omega) (by decide) ?_
        refine lv_iconst (v := 0) hx hb dX0_stepsOf_57 (by decide) ?_
        have hrs := wp_s hf
        subst hrs
        exact RET H locs ls 58 dX0_stepsOf_58 rfl hH

def fX0_goOn (v1 : Int32) (v2 : Int32) (g : LandT) : Option (LandT) :=
  if ob v1 7 then none else
  if ob v1 7 then none else
  some (gH g, gR g, gK g, gF g, upd (gP g) (Int32.toNatClampNeg v1) (irem (((gP g) (Int32.toNatClampNeg v1)) + v2) 16), gV g, gQ g, gN g, gD g, gE g, gT g)

def rmX0_goOn : Room := { frames := 0, cells := 0, slots := 0, locals := 0 }
theorem mbX0_goOn_f24 : Cond.fieldLink RX0 24 (TX0 4).1 (TX0 4).2.1 (TX0 4).2.2.1 ∈ wsX0_goOn := by decide +kernel
theorem inX0_goOn_X0 : ∀ w ∈ wsX00, w ∈ wsX0_goOn := by decide +kernel
theorem hdVX0_goOn : yX0_goOn.cls = RX0 ∧ yX0_goOn.cls ≠ "java/lang/invoke/MethodHandle" ∧ yX0_goOn.cls ≠ "java/lang/invoke/VarHandle" ∧ (parseMethodDescriptor yX0_goOn.desc).map (fun d => d.parameters.length) = some 2 := by decide +kernel
set_option maxHeartbeats 4000000 in
set_option maxRecDepth 100000 in
theorem ctX0_goOn {l : Launch} {D : va_G} {cI cJ cQ : ClassId} (ad : Nat → Nat) (g : LandT) (v1 : Int32) (v2 : Int32) {res : LandT} (h : fX0_goOn v1 v2 g = some res) : CtV l D cI cJ cQ yX0_goOn wsX0_goOn rmX0_goOn [.ref (ad 0), .int v1, .int v2] (wLd cI ad g) (wLd cI ad res) := by
  refine ctV_of (cc := cX0_goOn) (maxL := 3) (by decide) rfl (Nat.le_of_ble_eq_true rfl) ?_
  intro p e s m args below meth c A Q ls F hK hA RET hH hl
  obtain ⟨hx, hb, hml, hown, hts⟩ := id F
  have hl : lv_has ls 3 [(0, .ref (ad 0)), (1, .int v1), (2, .int v2)] := hl
  have hf : wpO (fX0_goOn v1 v2 g) (fun v => v = res) := ⟨_, h, rfl⟩
  obtain ⟨H, eH⟩ : ∃ H, H = s.heap := ⟨_, rfl⟩
  obtain ⟨locs, eL⟩ : ∃ locs : List Loc, locs = [] := ⟨_, rfl⟩
  have hH : Hs D A s.heap (wLd cI ad g) H locs := by rw [eH, eL]; exact hH
  rw [← eL]
  suffices hgo : W p l e rmX0_goOn s m args below meth c H locs 0 0 Q (F0 m 0 ls []) by rw [eH] at hgo; exact hgo
  clear eH eL
  refine lv_aload_n hx hb dX0_goOn_0 rfl (lv_at hl 0 rfl) ?_
  refine k_get (v := .ref (ad 5)) F hK hH 0 inX0_goOn_X0 4 mbX0_goOn_f24 dX0_goOn_1 rfl rfl (by decide) rfl ?_
  refine lv_iload_n hx hb dX0_goOn_4 rfl (lv_at hl 1 rfl) ?_
  refine lv_aload_n hx hb dX0_goOn_5 rfl (lv_at hl 0 rfl) ?_
  refine k_get (v := .ref (ad 5)) F hK hH 0 inX0_goOn_X0 4 mbX0_goOn_f24 dX0_goOn_6 rfl rfl (by decide) rfl ?_
  refine lv_iload_n hx hb dX0_goOn_9 rfl (lv_at hl 1 rfl) ?_
  obtain ⟨hi, hf⟩ := wp_n hf
  refine k_iald (f := gP g) (n := 7) F hK hH 5 dX0_goOn_10 hi rfl ?_
  refine lv_iload_n hx hb dX0_goOn_11 rfl (lv_at hl 2 rfl) ?_
  refine lv_iadd hx hb dX0_goOn_12 ?_
  refine lv_bipush (v := 16) hx hb dX0_goOn_13 (by decide) ?_
  refine lv_irem hx hb dX0_goOn_15 (by decide) ?_
  obtain ⟨hi, hf⟩ := wp_n hf
  refine k_iast (f := gP g) (n := 7) F hK hH 5 dX0_goOn_16 hi rfl (fun H locs hH => ?_)
  have hH : Hs D A s.heap (wLd cI ad (gH g, gR g, gK g, gF g, upd (gP g) (Int32.toNatClampNeg v1) (irem (((gP g) (Int32.toNatClampNeg v1)) + v2) 16), gV g, gQ g, gN g, gD g, gE g, gT g)) H locs := hH
  have hrs := wp_s hf
  subst hrs
  exact RET H locs ls 17 dX0_goOn_17 hH

def bX0_passHours_19  : (Int32 × LandT) → Option ((Int32 × LandT) ⊕ (LandT)) := fun ((t4, t5) : Int32 × LandT) =>
  if (gN t5) ≤ t4 then
    some (.inr t5)
  else
    Option.bind (fX0_stepsOf t4 (gT t5) t5) fun x7 =>
    Option.bind (fX0_goOn t4 x7 t5) fun x8 =>
    some (.inl (t4 + 1, x8))

def bX0_passHours_2 (v1 : Int32) : (Int32 × LandT) → Option ((Int32 × LandT) ⊕ (LandT)) := fun ((t1, t2) : Int32 × LandT) =>
  if v1 ≤ t1 then
    some (.inr t2)
  else
    Option.bind (lp bX0_passHours_19 fu (0, (gH t2, gR t2, gK t2, gF t2, gP t2, gV t2, gQ t2, gN t2, gD t2, gE t2, (gT t2) + 1))) fun (t6 : LandT) =>
    some (.inl (t1 + 1, t6))

def fX0_passHours (v1 : Int32) (g : LandT) : Option (LandT) :=
  Option.bind (lp (bX0_passHours_2 v1) fu (0, g)) fun (t3 : LandT) =>
  some t3

def rmX0_passHours : Room := { frames := 2, cells := 0, slots := 0, locals := 43 }
theorem mbX0_passHours_f49 : Cond.fieldLink RX0 49 (TX0 10).1 (TX0 10).2.1 (TX0 10).2.2.1 ∈ wsX0_passHours := by decide +kernel
theorem inX0_passHours_X0 : ∀ w ∈ wsX00, w ∈ wsX0_passHours := by decide +kernel
theorem mbX0_passHours_f43 : Cond.fieldLink RX0 43 (TX0 7).1 (TX0 7).2.1 (TX0 7).2.2.1 ∈ wsX0_passHours := by decide +kernel
theorem hdVX0_passHours : yX0_passHours.cls = RX0 ∧ yX0_passHours.cls ≠ "java/lang/invoke/MethodHandle" ∧ yX0_passHours.cls ≠ "java/lang/invoke/VarHandle" ∧ (parseMethodDescriptor yX0_passHours.desc).map (fun d => d.parameters.length) = some 1 := by decide +kernel
set_option maxHeartbeats 4000000 in
set_option maxRecDepth 100000 in
theorem ctX0_passHours {l : Launch} {D : va_G} {cI cJ cQ : ClassId} (ad : Nat → Nat) (g : LandT) (v1 : Int32) {res : LandT} (h : fX0_passHours v1 g = some res) : CtV l D cI cJ cQ yX0_passHours wsX0_passHours rmX0_passHours [.ref (ad 0), .int v1] (wLd cI ad g) (wLd cI ad res) := by
  refine ctV_of (cc := cX0_passHours) (maxL := 4) (by decide) rfl (Nat.le_of_ble_eq_true rfl) ?_
  intro p e s m args below meth c A Q ls F hK hA RET hH hl
  obtain ⟨hx, hb, hml, hown, hts⟩ := id F
  have hl : lv_has ls 4 [(0, .ref (ad 0)), (1, .int v1)] := hl
  have hf : wpO (fX0_passHours v1 g) (fun v => v = res) := ⟨_, h, rfl⟩
  obtain ⟨H, eH⟩ : ∃ H, H = s.heap := ⟨_, rfl⟩
  obtain ⟨locs, eL⟩ : ∃ locs : List Loc, locs = [] := ⟨_, rfl⟩
  have hH : Hs D A s.heap (wLd cI ad g) H locs := by rw [eH, eL]; exact hH
  rw [← eL]
  suffices hgo : W p l e rmX0_passHours s m args below meth c H locs 0 0 Q (F0 m 0 ls []) by rw [eH] at hgo; exact hgo
  clear eH eL
  refine lv_iconst (v := 0) hx hb dX0_passHours_0 (by decide) ?_
  refine lv_istore_n (lv' := [(2, .int 0), (0, .ref (ad 0)), (1, .int v1)]) hx hb dX0_passHours_1 rfl hl (by decide) rfl (fun ls hl => ?_)
  have LP : ∀ (Φ : (LandT) → Prop), (∀ (t3 : LandT) (H : Heap) (locs : List Loc) (ls : Array Slot), Φ (t3) → Hs D A s.heap (wLd cI ad t3) H locs → lv_has ls 4 [] → W p l e rmX0_passHours s m args below meth c H locs 0 0 Q (F0 m 53 ls [])) → ∀ (n : Nat) (t1 : Int32) (t2 : LandT) (H : Heap) (locs : List Loc) (ls : Array Slot), wpO (lp (bX0_passHours_2 v1) n (t1, t2)) Φ → Hs D A s.heap (wLd cI ad t2) H locs → lv_has ls 4 [(0, .ref (ad 0)), (1, .int v1), (2, .int t1)] → W p l e rmX0_passHours s m args below meth c H locs 0 0 Q (F0 m 2 ls []) := by
    intro Φ EX n
    induction n with
    | zero =>
      intro t1 t2 H locs ls hf hH hl
      exact (wp_l0 hf).elim
    | succ n ih =>
      intro t1 t2 H locs ls hf hH hl
      have hf := wp_l hf
      refine lv_iload_n hx hb dX0_passHours_2 rfl (lv_at hl 2 rfl) ?_
      refine lv_iload_n hx hb dX0_passHours_3 rfl (lv_at hl 1 rfl) ?_
      refine lv_icmp_ge (tgt := 53) hx hb dX0_passHours_4 (by decide) (fun hc => ?_) (fun hc => ?_)
      · have hf := wp_t hc hf
        have hw := wp_out hf
        exact EX _ _ _ _ hw hH (lv_sub hl [] rfl)
      · have hf := wp_f hc hf
        refine lv_aload_n hx hb dX0_passHours_7 rfl (lv_at hl 0 rfl) ?_
        refine lv_dup hx hb dX0_passHours_8 rfl ?_
        refine k_get (v := .int (gT t2)) F hK hH 0 inX0_passHours_X0 10 mbX0_passHours_f49 dX0_passHours_9 rfl rfl (by decide) rfl ?_
        refine lv_iconst (v := 1) hx hb dX0_passHours_12 (by decide) ?_
        refine lv_iadd hx hb dX0_passHours_13 ?_
        refine k_put (v := .int ((gT t2) + 1)) F hK hH 0 inX0_passHours_X0 tyX0 tyX0_ok nmX0 10 mbX0_passHours_f49 dX0_passHours_14 rfl rfl (by decide) rfl rfl rfl (Nat.le_of_ble_eq_true rfl) (fun H locs hH => ?_)
        have hH : Hs D A s.heap (wLd cI ad (gH t2, gR t2, gK t2, gF t2, gP t2, gV t2, gQ t2, gN t2, gD t2, gE t2, (gT t2) + 1)) H locs := hH
        refine lv_iconst (v := 0) hx hb dX0_passHours_17 (by decide) ?_
        refine lv_istore_n (lv' := [(3, .int 0), (0, .ref (ad 0)), (1, .int v1), (2, .int t1)]) hx hb dX0_passHours_18 rfl hl (by decide) rfl (fun ls hl => ?_)
        have LP : ∀ (Φ : (LandT) → Prop), (∀ (t6 : LandT) (H : Heap) (locs : List Loc) (ls : Array Slot), Φ (t6) → Hs D A s.heap (wLd cI ad t6) H locs → lv_has ls 4 [(0, .ref (ad 0)), (1, .int v1), (2, .int t1)] → W p l e rmX0_passHours s m args below meth c H locs 0 0 Q (F0 m 47 ls [])) → ∀ (n : Nat) (t4 : Int32) (t5 : LandT) (H : Heap) (locs : List Loc) (ls : Array Slot), wpO (lp bX0_passHours_19 n (t4, t5)) Φ → Hs D A s.heap (wLd cI ad t5) H locs → lv_has ls 4 [(0, .ref (ad 0)), (1, .int v1), (2, .int t1), (3, .int t4)] → W p l e rmX0_passHours s m args below meth c H locs 0 0 Q (F0 m 19 ls []) := by
          intro Φ EX n
          induction n with
          | zero =>
            intro t4 t5 H locs ls hf hH hl
            exact (wp_l0 hf).elim
          | succ n ih =>
            intro t4 t5 H locs ls hf hH hl
            have hf := wp_l hf
            refine lv_iload_n hx hb dX0_passHours_19 rfl (lv_at hl 3 rfl) ?_
            refine lv_aload_n hx hb dX0_passHours_20 rfl (lv_at hl 0 rfl) ?_
            refine k_get (v := .int (gN t5)) F hK hH 0 inX0_passHours_X0 7 mbX0_passHours_f43 dX0_passHours_21 rfl rfl (by decide) rfl ?_
            refine lv_icmp_ge (tgt := 47) hx hb dX0_passHours_24 (by decide) (fun hc => ?_) (fun hc => ?_)
            · have hf := wp_t hc hf
              have hw := wp_out hf
              exact EX _ _ _ _ hw hH (lv_sub hl [0, 1, 2] rfl)
            · have hf := wp_f hc hf
              refine lv_aload_n hx hb dX0_passHours_27 rfl (lv_at hl 0 rfl) ?_
              refine lv_iload_n hx hb dX0_passHours_28 rfl (lv_at hl 3 rfl) ?_
              refine lv_aload_n hx hb dX0_passHours_29 rfl (lv_at hl 0 rfl) ?_
              refine lv_iload_n hx hb dX0_passHours_30 rfl (lv_at hl 3 rfl) ?_
              refine lv_aload_n hx hb dX0_passHours_31 rfl (lv_at hl 0 rfl) ?_
              refine k_get (v := .int (gT t5)) F hK hH 0 inX0_passHours_X0 10 mbX0_passHours_f49 dX0_passHours_32 rfl rfl (by decide) rfl ?_
              obtain ⟨x7, hcl, hf⟩ := wp_b hf
              refine k_Vi0 F hK hH hA hl.1 ⟨Nat.zero_le _, Nat.zero_le _⟩ [.int t4, .int (gT t5)] [.int t4, .ref (ad 0)] (ctX0_stepsOf ad t5 t4 (gT t5) hcl) (cwV 2 hts gX0_passHours_X0_stepsOf rfl rfl rfl hdVX0_stepsOf ⟨Nat.le_of_ble_eq_true rfl, Nat.le_of_ble_eq_true rfl⟩) dX0_passHours_35 0 rfl rfl rfl rfl rfl (Nat.le_of_ble_eq_true rfl) rfl (fun H locs hH => ?_)
              have hH : Hs D A s.heap (wLd cI ad t5) H locs := hH
              obtain ⟨x8, hcl, hf⟩ := wp_b hf
              refine k_Vv0 F hK hH hA hl.1 ⟨Nat.zero_le _, Nat.zero_le _⟩ [.int t4, .int x7] [] (ctX0_goOn ad t5 t4 x7 hcl) (cwV 2 hts gX0_passHours_X0_goOn rfl rfl rfl hdVX0_goOn ⟨Nat.le_of_ble_eq_true rfl, Nat.le_of_ble_eq_true rfl⟩) dX0_passHours_38 0 rfl rfl rfl rfl rfl (Nat.le_of_ble_eq_true rfl) rfl (fun H locs hH => ?_)
              have hH : Hs D A s.heap (wLd cI ad x8) H locs := hH
              refine lv_iinc (v := t4 + 1) (lv' := [(3, .int (t4 + 1)), (0, .ref (ad 0)), (1, .int v1), (2, .int t1)]) hx hb dX0_passHours_41 hl (k := 3) rfl rfl (by decide) rfl (fun ls hl => ?_)
              refine lv_goto (tgt := 19) hx hb dX0_passHours_44 (by decide) ?_
              have hw := wp_in hf
              exact ih _ _ _ _ _ hw hH (lv_sub hl [1, 2, 3, 0] rfl)
        refine LP _ (fun t6 H locs ls hf hH hl => ?_) fu _ _ _ _ _ (wp_bb hf) hH (lv_sub hl [1, 2, 3, 0] rfl)
        refine lv_iinc (v := t1 + 1) (lv' := [(2, .int (t1 + 1)), (0, .ref (ad 0)), (1, .int v1)]) hx hb dX0_passHours_47 hl (k := 2) rfl rfl (by decide) rfl (fun ls hl => ?_)
        refine lv_goto (tgt := 2) hx hb dX0_passHours_50 (by decide) ?_
        have hw := wp_in hf
        exact ih _ _ _ _ _ hw hH (lv_sub hl [1, 2, 0] rfl)
  refine LP _ (fun t3 H locs ls hf hH hl => ?_) fu _ _ _ _ _ (wp_bb hf) hH (lv_sub hl [1, 2, 0] rfl)
  have hrs := wp_s hf
  subst hrs
  exact RET H locs ls 53 dX0_passHours_53 hH

def fX0_riseOf (v1 : Int32) (g : LandT) : Option (Int32) :=
  if ob v1 7 then none else
  if ((gK g) (Int32.toNatClampNeg v1)) = 0 then
    if ob v1 7 then none else
    some ((gF g) (Int32.toNatClampNeg v1))
  else
    if ((gK g) (Int32.toNatClampNeg v1)) = 1 then
      if ob v1 7 then none else
      some (((gF g) (Int32.toNatClampNeg v1)) + (irem (gT g) 2))
    else
      if ((gK g) (Int32.toNatClampNeg v1)) = 2 then
        some 1
      else
        if ((gK g) (Int32.toNatClampNeg v1)) = 3 then
          some 1
        else
          if ((gK g) (Int32.toNatClampNeg v1)) = 4 then
            some 6
          else
            if ((gK g) (Int32.toNatClampNeg v1)) = 5 then
              if (irem (gT g) 2) = 0 then
                some 2
              else
                some 0
            else
              some 0

def rmX0_riseOf : Room := { frames := 0, cells := 0, slots := 0, locals := 0 }
theorem mbX0_riseOf_f18 : Cond.fieldLink RX0 18 (TX0 2).1 (TX0 2).2.1 (TX0 2).2.2.1 ∈ wsX0_riseOf := by decide +kernel
theorem inX0_riseOf_X0 : ∀ w ∈ wsX00, w ∈ wsX0_riseOf := by decide +kernel
theorem mbX0_riseOf_f21 : Cond.fieldLink RX0 21 (TX0 3).1 (TX0 3).2.1 (TX0 3).2.2.1 ∈ wsX0_riseOf := by decide +kernel
theorem mbX0_riseOf_f49 : Cond.fieldLink RX0 49 (TX0 10).1 (TX0 10).2.1 (TX0 10).2.2.1 ∈ wsX0_riseOf := by decide +kernel
theorem hdVX0_riseOf : yX0_riseOf.cls = RX0 ∧ yX0_riseOf.cls ≠ "java/lang/invoke/MethodHandle" ∧ yX0_riseOf.cls ≠ "java/lang/invoke/VarHandle" ∧ (parseMethodDescriptor yX0_riseOf.desc).map (fun d => d.parameters.length) = some 1 := by decide +kernel
set_option maxHeartbeats 4000000 in
set_option maxRecDepth 100000 in
theorem ctX0_riseOf {l : Launch} {D : va_G} {cI cJ cQ : ClassId} (ad : Nat → Nat) (g : LandT) (v1 : Int32) {res : Int32} (h : fX0_riseOf v1 g = some res) : CtI l D cI cJ cQ yX0_riseOf wsX0_riseOf rmX0_riseOf [.ref (ad 0), .int v1] (wLd cI ad g) res (wLd cI ad g) := by
  refine ctI_of .int (cc := cX0_riseOf) (maxL := 2) (by decide) rfl (Nat.le_of_ble_eq_true rfl) ?_
  intro p e s m args below meth c A Q ls F hK hA RET hH hl
  obtain ⟨hx, hb, hml, hown, hts⟩ := id F
  have hl : lv_has ls 2 [(0, .ref (ad 0)), (1, .int v1)] := hl
  have hf : wpO (fX0_riseOf v1 g) (fun v => v = res) := ⟨_, h, rfl⟩
  obtain ⟨H, eH⟩ : ∃ H, H = s.heap := ⟨_, rfl⟩
  obtain ⟨locs, eL⟩ : ∃ locs : List Loc, locs = [] := ⟨_, rfl⟩
  have hH : Hs D A s.heap (wLd cI ad g) H locs := by rw [eH, eL]; exact hH
  rw [← eL]
  suffices hgo : W p l e rmX0_riseOf s m args below meth c H locs 0 0 Q (F0 m 0 ls []) by rw [eH] at hgo; exact hgo
  clear eH eL
  refine lv_aload_n hx hb dX0_riseOf_0 rfl (lv_at hl 0 rfl) ?_
  refine k_get (v := .ref (ad 3)) F hK hH 0 inX0_riseOf_X0 2 mbX0_riseOf_f18 dX0_riseOf_1 rfl rfl (by decide) rfl ?_
  refine lv_iload_n hx hb dX0_riseOf_4 rfl (lv_at hl 1 rfl) ?_
  obtain ⟨hi, hf⟩ := wp_n hf
  refine k_iald (f := gK g) (n := 7) F hK hH 3 dX0_riseOf_5 hi rfl ?_
  by_cases hc0 : ((gK g) (Int32.toNatClampNeg v1)) = 0
  · have hf := wp_t hc0 hf
    refine lv_tableIn (tgt := 44) hx hb dX0_riseOf_6 (by rw [hc0]; decide) (by rw [hc0]; decide) (by rw [hc0]; try rfl) (by decide) ?_
    refine lv_aload_n hx hb dX0_riseOf_44 rfl (lv_at hl 0 rfl) ?_
    refine k_get (v := .ref (ad 4)) F hK hH 0 inX0_riseOf_X0 3 mbX0_riseOf_f21 dX0_riseOf_45 rfl rfl (by decide) rfl ?_
    refine lv_iload_n hx hb dX0_riseOf_48 rfl (lv_at hl 1 rfl) ?_
    obtain ⟨hi, hf⟩ := wp_n hf
    refine k_iald (f := gF g) (n := 7) F hK hH 4 dX0_riseOf_49 hi rfl ?_
    have hrs := wp_s hf
    subst hrs
    exact RET H locs ls 50 dX0_riseOf_50 rfl hH
  · have hf := wp_f hc0 hf
    by_cases hc1 : ((gK g) (Int32.toNatClampNeg v1)) = 1
    · have hf := wp_t hc1 hf
      refine lv_tableIn (tgt := 51) hx hb dX0_riseOf_6 (by rw [hc1]; decide) (by rw [hc1]; decide) (by rw [hc1]; try rfl) (by decide) ?_
      refine lv_aload_n hx hb dX0_riseOf_51 rfl (lv_at hl 0 rfl) ?_
      refine k_get (v := .ref (ad 4)) F hK hH 0 inX0_riseOf_X0 3 mbX0_riseOf_f21 dX0_riseOf_52 rfl rfl (by decide) rfl ?_
      refine lv_iload_n hx hb dX0_riseOf_55 rfl (lv_at hl 1 rfl) ?_
      obtain ⟨hi, hf⟩ := wp_n hf
      refine k_iald (f := gF g) (n := 7) F hK hH 4 dX0_riseOf_56 hi rfl ?_
      refine lv_aload_n hx hb dX0_riseOf_57 rfl (lv_at hl 0 rfl) ?_
      refine k_get (v := .int (gT g)) F hK hH 0 inX0_riseOf_X0 10 mbX0_riseOf_f49 dX0_riseOf_58 rfl rfl (by decide) rfl ?_
      refine lv_iconst (v := 2) hx hb dX0_riseOf_61 (by decide) ?_
      refine lv_irem hx hb dX0_riseOf_62 (by decide) ?_
      refine lv_iadd hx hb dX0_riseOf_63 ?_
      have hrs := wp_s hf
      subst hrs
      exact RET H locs ls 64 dX0_riseOf_64 rfl hH
    · have hf := wp_f hc1 hf
      by_cases hc2 : ((gK g) (Int32.toNatClampNeg v1)) = 2
      · have hf := wp_t hc2 hf
        refine lv_tableIn (tgt := 65) hx hb dX0_riseOf_6 (by rw [hc2]; decide) (by rw [hc2]; decide) (by rw [hc2]; try rfl) (by decide) ?_
        refine lv_iconst (v := 1) hx hb dX0_riseOf_65 (by decide) ?_
        have hrs := wp_s hf
        subst hrs
        exact RET H locs ls 66 dX0_riseOf_66 rfl hH
      · have hf := wp_f hc2 hf
        by_cases hc3 : ((gK g) (Int32.toNatClampNeg v1)) = 3
        · have hf := wp_t hc3 hf
          refine lv_tableIn (tgt := 65) hx hb dX0_riseOf_6 (by rw [hc3]; decide) (by rw [hc3]; decide) (by rw [hc3]; try rfl) (by decide) ?_
          refine lv_iconst (v := 1) hx hb dX0_riseOf_65 (by decide) ?_
          have hrs := wp_s hf
          subst hrs
          exact RET H locs ls 66 dX0_riseOf_66 rfl hH
        · have hf := wp_f hc3 hf
          by_cases hc4 : ((gK g) (Int32.toNatClampNeg v1)) = 4
          · have hf := wp_t hc4 hf
            refine lv_tableIn (tgt := 67) hx hb dX0_riseOf_6 (by rw [hc4]; decide) (by rw [hc4]; decide) (by rw [hc4]; try rfl) (by decide) ?_
            refine lv_bipush (v := 6) hx hb dX0_riseOf_67 (by decide) ?_
            have hrs := wp_s hf
            subst hrs
            exact RET H locs ls 69 dX0_riseOf_69 rfl hH
          · have hf := wp_f hc4 hf
            by_cases hc5 : ((gK g) (Int32.toNatClampNeg v1)) = 5
            · have hf := wp_t hc5 hf
              refine lv_tableIn (tgt := 70) hx hb dX0_riseOf_6 (by rw [hc5]; decide) (by rw [hc5]; decide) (by rw [hc5]; try rfl) (by decide) ?_
              refine lv_aload_n hx hb dX0_riseOf_70 rfl (lv_at hl 0 rfl) ?_
              refine k_get (v := .int (gT g)) F hK hH 0 inX0_riseOf_X0 10 mbX0_riseOf_f49 dX0_riseOf_71 rfl rfl (by decide) rfl ?_
              refine lv_iconst (v := 2) hx hb dX0_riseOf_74 (by decide) ?_
              refine lv_irem hx hb dX0_riseOf_75 (by decide) ?_
              refine lv_if_ne (tgt := 83) hx hb dX0_riseOf_76 (by decide) (fun hc => ?_) (fun hc => ?_)
              · have hf := wp_f hc hf
                refine lv_iconst (v := 0) hx hb dX0_riseOf_83 (by decide) ?_
                have hrs := wp_s hf
                subst hrs
                exact RET H locs ls 84 dX0_riseOf_84 rfl hH
              · have hf := wp_t hc hf
                refine lv_iconst (v := 2) hx hb dX0_riseOf_79 (by decide) ?_
                refine lv_goto (tgt := 84) hx hb dX0_riseOf_80 (by decide) ?_
                have hrs := wp_s hf
                subst hrs
                exact RET H locs ls 84 dX0_riseOf_84 rfl hH
            · have hf := wp_f hc5 hf
              have hs0 := sw_ne hc0 (show (0 : Int32).toInt = 0 from rfl)
              have hs1 := sw_ne hc1 (show (1 : Int32).toInt = 1 from rfl)
              have hs2 := sw_ne hc2 (show (2 : Int32).toInt = 2 from rfl)
              have hs3 := sw_ne hc3 (show (3 : Int32).toInt = 3 from rfl)
              have hs4 := sw_ne hc4 (show (4 : Int32).toInt = 4 from rfl)
              have hs5 := sw_ne hc5 (show (5 : Int32).toInt = 5 from rfl)
              refine lv_tableOut (tgt := 85) hx hb dX0_riseOf_6 (by omega) (by decide) ?_
              refine lv_iconst (v := 0) hx hb dX0_riseOf_85 (by decide) ?_
              have hrs := wp_s hf
              subst hrs
              exact RET H locs ls 86 dX0_riseOf_86 rfl hH

def fX0_topOf (v1 : Int32) (g : LandT) : Option (Int32) :=
  if ob v1 7 then none else
  if ob ((gP g) (Int32.toNatClampNeg v1)) 16 then none else
  Option.bind (fX0_riseOf v1 g) fun x1 =>
  some (((gH g) (Int32.toNatClampNeg ((gP g) (Int32.toNatClampNeg v1)))) + x1)

def rmX0_topOf : Room := { frames := 1, cells := 0, slots := 0, locals := 21 }
theorem mbX0_topOf_f9 : Cond.fieldLink RX0 9 (TX0 0).1 (TX0 0).2.1 (TX0 0).2.2.1 ∈ wsX0_topOf := by decide +kernel
theorem inX0_topOf_X0 : ∀ w ∈ wsX00, w ∈ wsX0_topOf := by decide +kernel
theorem mbX0_topOf_f24 : Cond.fieldLink RX0 24 (TX0 4).1 (TX0 4).2.1 (TX0 4).2.2.1 ∈ wsX0_topOf := by decide +kernel
theorem hdVX0_topOf : yX0_topOf.cls = RX0 ∧ yX0_topOf.cls ≠ "java/lang/invoke/MethodHandle" ∧ yX0_topOf.cls ≠ "java/lang/invoke/VarHandle" ∧ (parseMethodDescriptor yX0_topOf.desc).map (fun d => d.parameters.length) = some 1 := by decide +kernel
set_option maxHeartbeats 4000000 in
set_option maxRecDepth 100000 in
theorem ctX0_topOf {l : Launch} {D : va_G} {cI cJ cQ : ClassId} (ad : Nat → Nat) (g : LandT) (v1 : Int32) {res : Int32} (h : fX0_topOf v1 g = some res) : CtI l D cI cJ cQ yX0_topOf wsX0_topOf rmX0_topOf [.ref (ad 0), .int v1] (wLd cI ad g) res (wLd cI ad g) := by
  refine ctI_of .int (cc := cX0_topOf) (maxL := 2) (by decide) rfl (Nat.le_of_ble_eq_true rfl) ?_
  intro p e s m args below meth c A Q ls F hK hA RET hH hl
  obtain ⟨hx, hb, hml, hown, hts⟩ := id F
  have hl : lv_has ls 2 [(0, .ref (ad 0)), (1, .int v1)] := hl
  have hf : wpO (fX0_topOf v1 g) (fun v => v = res) := ⟨_, h, rfl⟩
  obtain ⟨H, eH⟩ : ∃ H, H = s.heap := ⟨_, rfl⟩
  obtain ⟨locs, eL⟩ : ∃ locs : List Loc, locs = [] := ⟨_, rfl⟩
  have hH : Hs D A s.heap (wLd cI ad g) H locs := by rw [eH, eL]; exact hH
  rw [← eL]
  suffices hgo : W p l e rmX0_topOf s m args below meth c H locs 0 0 Q (F0 m 0 ls []) by rw [eH] at hgo; exact hgo
  clear eH eL
  refine lv_aload_n hx hb dX0_topOf_0 rfl (lv_at hl 0 rfl) ?_
  refine k_get (v := .ref (ad 1)) F hK hH 0 inX0_topOf_X0 0 mbX0_topOf_f9 dX0_topOf_1 rfl rfl (by decide) rfl ?_
  refine lv_aload_n hx hb dX0_topOf_4 rfl (lv_at hl 0 rfl) ?_
  refine k_get (v := .ref (ad 5)) F hK hH 0 inX0_topOf_X0 4 mbX0_topOf_f24 dX0_topOf_5 rfl rfl (by decide) rfl ?_
  refine lv_iload_n hx hb dX0_topOf_8 rfl (lv_at hl 1 rfl) ?_
  obtain ⟨hi, hf⟩ := wp_n hf
  refine k_iald (f := gP g) (n := 7) F hK hH 5 dX0_topOf_9 hi rfl ?_
  obtain ⟨hi, hf⟩ := wp_n hf
  refine k_iald (f := gH g) (n := 16) F hK hH 1 dX0_topOf_10 hi rfl ?_
  refine lv_aload_n hx hb dX0_topOf_11 rfl (lv_at hl 0 rfl) ?_
  refine lv_iload_n hx hb dX0_topOf_12 rfl (lv_at hl 1 rfl) ?_
  obtain ⟨x1, hcl, hf⟩ := wp_b hf
  refine k_Vi0 F hK hH hA hl.1 ⟨Nat.zero_le _, Nat.zero_le _⟩ [.int v1] [.int ((gH g) (Int32.toNatClampNeg ((gP g) (Int32.toNatClampNeg v1))))] (ctX0_riseOf ad g v1 hcl) (cwV 1 hts gX0_topOf_X0_riseOf rfl rfl rfl hdVX0_riseOf ⟨Nat.le_of_ble_eq_true rfl, Nat.le_of_ble_eq_true rfl⟩) dX0_topOf_13 0 rfl rfl rfl rfl rfl (Nat.le_of_ble_eq_true rfl) rfl (fun H locs hH => ?_)
  have hH : Hs D A s.heap (wLd cI ad g) H locs := hH
  refine lv_iadd hx hb dX0_topOf_16 ?_
  have hrs := wp_s hf
  subst hrs
  exact RET H locs ls 17 dX0_topOf_17 rfl hH

def fX0_isInSight (v1 : Int32) (v2 : Int32) (v3 : Int32) (g : LandT) : Option (Int32) :=
  if (gE g) < (v1 + 1) then
    some 0
  else
    if v2 ≤ 0 then
      some 0
    else
      if ob v1 16 then none else
      if (imax v3 v2) ≤ ((gR g) (Int32.toNatClampNeg v1)) then
        some 0
      else
        some 1

def rmX0_isInSight : Room := { frames := 1, cells := 0, slots := 0, locals := 21 }
theorem mbX0_isInSight_f33 : Cond.fieldLink RX0 33 (TX0 9).1 (TX0 9).2.1 (TX0 9).2.2.1 ∈ wsX0_isInSight := by decide +kernel
theorem inX0_isInSight_X0 : ∀ w ∈ wsX00, w ∈ wsX0_isInSight := by decide +kernel
theorem mbX0_isInSight_f15 : Cond.fieldLink RX0 15 (TX0 1).1 (TX0 1).2.1 (TX0 1).2.2.1 ∈ wsX0_isInSight := by decide +kernel
theorem mbX0_isInSight_m56 : Cond.methodLink RX0 56 Lib.Math.max.name ∈ wsX0_isInSight := by decide +kernel
theorem mbX0_isInSight_max1 : Cond.static Lib.Math.max.name ∈ wsX0_isInSight := by decide +kernel
theorem mbX0_isInSight_max2 : Cond.initialized "java/lang/Math" ∈ wsX0_isInSight := by decide +kernel
theorem mbX0_isInSight_max3 : Cond.code Lib.Math.max.name Lib.Math.max.code 2 (some .int) ∈ wsX0_isInSight := by decide +kernel
theorem hdVX0_isInSight : yX0_isInSight.cls = RX0 ∧ yX0_isInSight.cls ≠ "java/lang/invoke/MethodHandle" ∧ yX0_isInSight.cls ≠ "java/lang/invoke/VarHandle" ∧ (parseMethodDescriptor yX0_isInSight.desc).map (fun d => d.parameters.length) = some 3 := by decide +kernel
set_option maxHeartbeats 4000000 in
set_option maxRecDepth 100000 in
theorem ctX0_isInSight {l : Launch} {D : va_G} {cI cJ cQ : ClassId} (ad : Nat → Nat) (g : LandT) (v1 : Int32) (v2 : Int32) (v3 : Int32) {res : Int32} (h : fX0_isInSight v1 v2 v3 g = some res) : CtI l D cI cJ cQ yX0_isInSight wsX0_isInSight rmX0_isInSight [.ref (ad 0), .int v1, .int v2, .int v3] (wLd cI ad g) res (wLd cI ad g) := by
  refine ctI_of .boolean (cc := cX0_isInSight) (maxL := 4) (by decide) rfl (Nat.le_of_ble_eq_true rfl) ?_
  intro p e s m args below meth c A Q ls F hK hA RET hH hl
  obtain ⟨hx, hb, hml, hown, hts⟩ := id F
  have hl : lv_has ls 4 [(0, .ref (ad 0)), (1, .int v1), (2, .int v2), (3, .int v3)] := hl
  have hf : wpO (fX0_isInSight v1 v2 v3 g) (fun v => v = res) := ⟨_, h, rfl⟩
  obtain ⟨H, eH⟩ : ∃ H, H = s.heap := ⟨_, rfl⟩
  obtain ⟨locs, eL⟩ : ∃ locs : List Loc, locs = [] := ⟨_, rfl⟩
  have hH : Hs D A s.heap (wLd cI ad g) H locs := by rw [eH, eL]; exact hH
  rw [← eL]
  suffices hgo : W p l e rmX0_isInSight s m args below meth c H locs 0 0 Q (F0 m 0 ls []) by rw [eH] at hgo; exact hgo
  clear eH eL
  refine lv_iload_n hx hb dX0_isInSight_0 rfl (lv_at hl 1 rfl) ?_
  refine lv_iconst (v := 1) hx hb dX0_isInSight_1 (by decide) ?_
  refine lv_iadd hx hb dX0_isInSight_2 ?_
  refine lv_aload_n hx hb dX0_isInSight_3 rfl (lv_at hl 0 rfl) ?_
  refine k_get (v := .int (gE g)) F hK hH 0 inX0_isInSight_X0 9 mbX0_isInSight_f33 dX0_isInSight_4 rfl rfl (by decide) rfl ?_
  refine lv_icmp_gt (tgt := 32) hx hb dX0_isInSight_7 (by decide) (fun hc => ?_) (fun hc => ?_)
  · have hf := wp_t hc hf
    refine lv_iconst (v := 0) hx hb dX0_isInSight_32 (by decide) ?_
    have hrs := wp_s hf
    subst hrs
    exact RET H locs ls 33 dX0_isInSight_33 (by show narrow .boolean (.int 0) = .int 0; rfl) hH
  · have hf := wp_f hc hf
    refine lv_iload_n hx hb dX0_isInSight_10 rfl (lv_at hl 2 rfl) ?_
    refine lv_if_le (tgt := 32) hx hb dX0_isInSight_11 (by decide) (fun hc => ?_) (fun hc => ?_)
    · have hf := wp_t hc hf
      refine lv_iconst (v := 0) hx hb dX0_isInSight_32 (by decide) ?_
      have hrs := wp_s hf
      subst hrs
      exact RET H locs ls 33 dX0_isInSight_33 (by show narrow .boolean (.int 0) = .int 0; rfl) hH
    · have hf := wp_f hc hf
      refine lv_aload_n hx hb dX0_isInSight_14 rfl (lv_at hl 0 rfl) ?_
      refine k_get (v := .ref (ad 2)) F hK hH 0 inX0_isInSight_X0 1 mbX0_isInSight_f15 dX0_isInSight_15 rfl rfl (by decide) rfl ?_
      refine lv_iload_n hx hb dX0_isInSight_18 rfl (lv_at hl 1 rfl) ?_
      obtain ⟨hi, hf⟩ := wp_n hf
      refine k_iald (f := gR g) (n := 16) F hK hH 2 dX0_isInSight_19 hi rfl ?_
      refine lv_iload_n hx hb dX0_isInSight_20 rfl (lv_at hl 3 rfl) ?_
      refine lv_iload_n hx hb dX0_isInSight_21 rfl (lv_at hl 2 rfl) ?_
      refine k_max F hl.1 mbX0_isInSight_m56 mbX0_isInSight_max1 mbX0_isInSight_max2 mbX0_isInSight_max3 (Nat.le_of_ble_eq_true rfl) (Nat.le_of_ble_eq_true rfl) ⟨Nat.zero_le _, Nat.zero_le _⟩ dX0_isInSight_22 ?_
      refine W.eq (g2 := F0 m 25 ls [.int (imax v3 v2), .int ((gR g) (Int32.toNatClampNeg v1))]) rfl ?_
      refine lv_icmp_ge (tgt := 32) hx hb dX0_isInSight_25 (by decide) (fun hc => ?_) (fun hc => ?_)
      · have hf := wp_t hc hf
        refine lv_iconst (v := 0) hx hb dX0_isInSight_32 (by decide) ?_
        have hrs := wp_s hf
        subst hrs
        exact RET H locs ls 33 dX0_isInSight_33 (by show narrow .boolean (.int 0) = .int 0; rfl) hH
      · have hf := wp_f hc hf
        refine lv_iconst (v := 1) hx hb dX0_isInSight_28 (by decide) ?_
        refine lv_goto (tgt := 33) hx hb dX0_isInSight_29 (by decide) ?_
        have hrs := wp_s hf
        subst hrs
        exact RET H locs ls 33 dX0_isInSight_33 (by show narrow .boolean (.int 1) = .int 1; rfl) hH

def fX0_isSeen (v1 : Int32) (v2 : Int32) (g : LandT) : Option (Int32) :=
  Option.bind (fX0_isHidden v1 g) fun x1 =>
  if x1 = 0 then
    if ob v1 7 then none else
    Option.bind (fX0_topOf v1 g) fun x2 =>
    Option.bind (fX0_isInSight ((gP g) (Int32.toNatClampNeg v1)) x2 v2 g) fun x3 =>
    if x3 = 0 then
      some 0
    else
      some 1
  else
    some 0

def rmX0_isSeen : Room := { frames := 2, cells := 0, slots := 0, locals := 44 }
theorem mbX0_isSeen_f24 : Cond.fieldLink RX0 24 (TX0 4).1 (TX0 4).2.1 (TX0 4).2.2.1 ∈ wsX0_isSeen := by decide +kernel
theorem inX0_isSeen_X0 : ∀ w ∈ wsX00, w ∈ wsX0_isSeen := by decide +kernel
theorem hdVX0_isSeen : yX0_isSeen.cls = RX0 ∧ yX0_isSeen.cls ≠ "java/lang/invoke/MethodHandle" ∧ yX0_isSeen.cls ≠ "java/lang/invoke/VarHandle" ∧ (parseMethodDescriptor yX0_isSeen.desc).map (fun d => d.parameters.length) = some 2 := by decide +kernel
set_option maxHeartbeats 4000000 in
set_option maxRecDepth 100000 in
theorem ctX0_isSeen {l : Launch} {D : va_G} {cI cJ cQ : ClassId} (ad : Nat → Nat) (g : LandT) (v1 : Int32) (v2 : Int32) {res : Int32} (h : fX0_isSeen v1 v2 g = some res) : CtI l D cI cJ cQ yX0_isSeen wsX0_isSeen rmX0_isSeen [.ref (ad 0), .int v1, .int v2] (wLd cI ad g) res (wLd cI ad g) := by
  refine ctI_of .boolean (cc := cX0_isSeen) (maxL := 3) (by decide) rfl (Nat.le_of_ble_eq_true rfl) ?_
  intro p e s m args below meth c A Q ls F hK hA RET hH hl
  obtain ⟨hx, hb, hml, hown, hts⟩ := id F
  have hl : lv_has ls 3 [(0, .ref (ad 0)), (1, .int v1), (2, .int v2)] := hl
  have hf : wpO (fX0_isSeen v1 v2 g) (fun v => v = res) := ⟨_, h, rfl⟩
  obtain ⟨H, eH⟩ : ∃ H, H = s.heap := ⟨_, rfl⟩
  obtain ⟨locs, eL⟩ : ∃ locs : List Loc, locs = [] := ⟨_, rfl⟩
  have hH : Hs D A s.heap (wLd cI ad g) H locs := by rw [eH, eL]; exact hH
  rw [← eL]
  suffices hgo : W p l e rmX0_isSeen s m args below meth c H locs 0 0 Q (F0 m 0 ls []) by rw [eH] at hgo; exact hgo
  clear eH eL
  refine lv_aload_n hx hb dX0_isSeen_0 rfl (lv_at hl 0 rfl) ?_
  refine lv_iload_n hx hb dX0_isSeen_1 rfl (lv_at hl 1 rfl) ?_
  obtain ⟨x1, hcl, hf⟩ := wp_b hf
  refine k_Vi0 F hK hH hA hl.1 ⟨Nat.zero_le _, Nat.zero_le _⟩ [.int v1] [] (ctX0_isHidden ad g v1 hcl) (cwV 1 hts gX0_isSeen_X0_isHidden rfl rfl rfl hdVX0_isHidden ⟨Nat.le_of_ble_eq_true rfl, Nat.le_of_ble_eq_true rfl⟩) dX0_isSeen_2 0 rfl rfl rfl rfl rfl (Nat.le_of_ble_eq_true rfl) rfl (fun H locs hH => ?_)
  have hH : Hs D A s.heap (wLd cI ad g) H locs := hH
  refine lv_if_ne (tgt := 31) hx hb dX0_isSeen_5 (by decide) (fun hc => ?_) (fun hc => ?_)
  · have hf := wp_f hc hf
    refine lv_iconst (v := 0) hx hb dX0_isSeen_31 (by decide) ?_
    have hrs := wp_s hf
    subst hrs
    exact RET H locs ls 32 dX0_isSeen_32 (by show narrow .boolean (.int 0) = .int 0; rfl) hH
  · have hf := wp_t hc hf
    refine lv_aload_n hx hb dX0_isSeen_8 rfl (lv_at hl 0 rfl) ?_
    refine lv_aload_n hx hb dX0_isSeen_9 rfl (lv_at hl 0 rfl) ?_
    refine k_get (v := .ref (ad 5)) F hK hH 0 inX0_isSeen_X0 4 mbX0_isSeen_f24 dX0_isSeen_10 rfl rfl (by decide) rfl ?_
    refine lv_iload_n hx hb dX0_isSeen_13 rfl (lv_at hl 1 rfl) ?_
    obtain ⟨hi, hf⟩ := wp_n hf
    refine k_iald (f := gP g) (n := 7) F hK hH 5 dX0_isSeen_14 hi rfl ?_
    refine lv_aload_n hx hb dX0_isSeen_15 rfl (lv_at hl 0 rfl) ?_
    refine lv_iload_n hx hb dX0_isSeen_16 rfl (lv_at hl 1 rfl) ?_
    obtain ⟨x2, hcl, hf⟩ := wp_b hf
    refine k_Vi0 F hK hH hA hl.1 ⟨Nat.zero_le _, Nat.zero_le _⟩ [.int v1] [.int ((gP g) (Int32.toNatClampNeg v1)), .ref (ad 0)] (ctX0_topOf ad g v1 hcl) (cwV 1 hts gX0_isSeen_X0_topOf rfl rfl rfl hdVX0_topOf ⟨Nat.le_of_ble_eq_true rfl, Nat.le_of_ble_eq_true rfl⟩) dX0_isSeen_17 0 rfl rfl rfl rfl rfl (Nat.le_of_ble_eq_true rfl) rfl (fun H locs hH => ?_)
    have hH : Hs D A s.heap (wLd cI ad g) H locs := hH
    refine lv_iload_n hx hb dX0_isSeen_20 rfl (lv_at hl 2 rfl) ?_
    obtain ⟨x3, hcl, hf⟩ := wp_b hf
    refine k_Vi0 F hK hH hA hl.1 ⟨Nat.zero_le _, Nat.zero_le _⟩ [.int ((gP g) (Int32.toNatClampNeg v1)), .int x2, .int v2] [] (ctX0_isInSight ad g ((gP g) (Int32.toNatClampNeg v1)) x2 v2 hcl) (cwV 3 hts gX0_isSeen_X0_isInSight rfl rfl rfl hdVX0_isInSight ⟨Nat.le_of_ble_eq_true rfl, Nat.le_of_ble_eq_true rfl⟩) dX0_isSeen_21 0 rfl rfl rfl rfl rfl (Nat.le_of_ble_eq_true rfl) rfl (fun H locs hH => ?_)
    have hH : Hs D A s.heap (wLd cI ad g) H locs := hH
    refine lv_if_eq (tgt := 31) hx hb dX0_isSeen_24 (by decide) (fun hc => ?_) (fun hc => ?_)
    · have hf := wp_t hc hf
      refine lv_iconst (v := 0) hx hb dX0_isSeen_31 (by decide) ?_
      have hrs := wp_s hf
      subst hrs
      exact RET H locs ls 32 dX0_isSeen_32 (by show narrow .boolean (.int 0) = .int 0; rfl) hH
    · have hf := wp_f hc hf
      refine lv_iconst (v := 1) hx hb dX0_isSeen_27 (by decide) ?_
      refine lv_goto (tgt := 32) hx hb dX0_isSeen_28 (by decide) ?_
      have hrs := wp_s hf
      subst hrs
      exact RET H locs ls 32 dX0_isSeen_32 (by show narrow .boolean (.int 1) = .int 1; rfl) hH

def bX0_sightFrom_4 (v1 : Int32) (g : LandT) : (Int32 × Int32) → Option ((Int32 × Int32) ⊕ (Int32)) := fun ((t1, t2) : Int32 × Int32) =>
  if (gN g) ≤ t2 then
    some (.inr t1)
  else
    Option.bind (fX0_isSeen t2 v1 g) fun x4 =>
    if x4 = 0 then
      some (.inl (t1, t2 + 1))
    else
      some (.inl (t1 ||| ((1 : Int32) <<< (t2 &&& 31)), t2 + 1))

def fX0_sightFrom (v1 : Int32) (g : LandT) : Option (Int32) :=
  Option.bind (lp (bX0_sightFrom_4 v1 g) fu (0, 0)) fun (t3 : Int32) =>
  some t3

def rmX0_sightFrom : Room := { frames := 3, cells := 0, slots := 0, locals := 66 }
theorem mbX0_sightFrom_f43 : Cond.fieldLink RX0 43 (TX0 7).1 (TX0 7).2.1 (TX0 7).2.2.1 ∈ wsX0_sightFrom := by decide +kernel
theorem inX0_sightFrom_X0 : ∀ w ∈ wsX00, w ∈ wsX0_sightFrom := by decide +kernel
theorem hdVX0_sightFrom : yX0_sightFrom.cls = RX0 ∧ yX0_sightFrom.cls ≠ "java/lang/invoke/MethodHandle" ∧ yX0_sightFrom.cls ≠ "java/lang/invoke/VarHandle" ∧ (parseMethodDescriptor yX0_sightFrom.desc).map (fun d => d.parameters.length) = some 1 := by decide +kernel
set_option maxHeartbeats 4000000 in
set_option maxRecDepth 100000 in
theorem ctX0_sightFrom {l : Launch} {D : va_G} {cI cJ cQ : ClassId} (ad : Nat → Nat) (g : LandT) (v1 : Int32) {res : Int32} (h : fX0_sightFrom v1 g = some res) : CtI l D cI cJ cQ yX0_sightFrom wsX0_sightFrom rmX0_sightFrom [.ref (ad 0), .int v1] (wLd cI ad g) res (wLd cI ad g) := by
  refine ctI_of .int (cc := cX0_sightFrom) (maxL := 4) (by decide) rfl (Nat.le_of_ble_eq_true rfl) ?_
  intro p e s m args below meth c A Q ls F hK hA RET hH hl
  obtain ⟨hx, hb, hml, hown, hts⟩ := id F
  have hl : lv_has ls 4 [(0, .ref (ad 0)), (1, .int v1)] := hl
  have hf : wpO (fX0_sightFrom v1 g) (fun v => v = res) := ⟨_, h, rfl⟩
  obtain ⟨H, eH⟩ : ∃ H, H = s.heap := ⟨_, rfl⟩
  obtain ⟨locs, eL⟩ : ∃ locs : List Loc, locs = [] := ⟨_, rfl⟩
  have hH : Hs D A s.heap (wLd cI ad g) H locs := by rw [eH, eL]; exact hH
  rw [← eL]
  suffices hgo : W p l e rmX0_sightFrom s m args below meth c H locs 0 0 Q (F0 m 0 ls []) by rw [eH] at hgo; exact hgo
  clear eH eL
  refine lv_iconst (v := 0) hx hb dX0_sightFrom_0 (by decide) ?_
  refine lv_istore_n (lv' := [(2, .int 0), (0, .ref (ad 0)), (1, .int v1)]) hx hb dX0_sightFrom_1 rfl hl (by decide) rfl (fun ls hl => ?_)
  refine lv_iconst (v := 0) hx hb dX0_sightFrom_2 (by decide) ?_
  refine lv_istore_n (lv' := [(3, .int 0), (2, .int 0), (0, .ref (ad 0)), (1, .int v1)]) hx hb dX0_sightFrom_3 rfl hl (by decide) rfl (fun ls hl => ?_)
  have LP : ∀ (Φ : (Int32) → Prop), (∀ (t3 : Int32) (H : Heap) (locs : List Loc) (ls : Array Slot), Φ (t3) → Hs D A s.heap (wLd cI ad g) H locs → lv_has ls 4 [(2, .int t3)] → W p l e rmX0_sightFrom s m args below meth c H locs 0 0 Q (F0 m 33 ls [])) → ∀ (n : Nat) (t1 : Int32) (t2 : Int32) (H : Heap) (locs : List Loc) (ls : Array Slot), wpO (lp (bX0_sightFrom_4 v1 g) n (t1, t2)) Φ → Hs D A s.heap (wLd cI ad g) H locs → lv_has ls 4 [(0, .ref (ad 0)), (1, .int v1), (2, .int t1), (3, .int t2)] → W p l e rmX0_sightFrom s m args below meth c H locs 0 0 Q (F0 m 4 ls []) := by
    intro Φ EX n
    induction n with
    | zero =>
      intro t1 t2 H locs ls hf hH hl
      exact (wp_l0 hf).elim
    | succ n ih =>
      intro t1 t2 H locs ls hf hH hl
      have hf := wp_l hf
      refine lv_iload_n hx hb dX0_sightFrom_4 rfl (lv_at hl 3 rfl) ?_
      refine lv_aload_n hx hb dX0_sightFrom_5 rfl (lv_at hl 0 rfl) ?_
      refine k_get (v := .int (gN g)) F hK hH 0 inX0_sightFrom_X0 7 mbX0_sightFrom_f43 dX0_sightFrom_6 rfl rfl (by decide) rfl ?_
      refine lv_icmp_ge (tgt := 33) hx hb dX0_sightFrom_9 (by decide) (fun hc => ?_) (fun hc => ?_)
      · have hf := wp_t hc hf
        have hw := wp_out hf
        exact EX _ _ _ _ hw hH (lv_sub hl [2] rfl)
      · have hf := wp_f hc hf
        refine lv_aload_n hx hb dX0_sightFrom_12 rfl (lv_at hl 0 rfl) ?_
        refine lv_iload_n hx hb dX0_sightFrom_13 rfl (lv_at hl 3 rfl) ?_
        refine lv_iload_n hx hb dX0_sightFrom_14 rfl (lv_at hl 1 rfl) ?_
        obtain ⟨x4, hcl, hf⟩ := wp_b hf
        refine k_Vi0 F hK hH hA hl.1 ⟨Nat.zero_le _, Nat.zero_le _⟩ [.int t2, .int v1] [] (ctX0_isSeen ad g t2 v1 hcl) (cwV 2 hts gX0_sightFrom_X0_isSeen rfl rfl rfl hdVX0_isSeen ⟨Nat.le_of_ble_eq_true rfl, Nat.le_of_ble_eq_true rfl⟩) dX0_sightFrom_15 0 rfl rfl rfl rfl rfl (Nat.le_of_ble_eq_true rfl) rfl (fun H locs hH => ?_)
        have hH : Hs D A s.heap (wLd cI ad g) H locs := hH
        refine lv_if_eq (tgt := 27) hx hb dX0_sightFrom_18 (by decide) (fun hc => ?_) (fun hc => ?_)
        · have hf := wp_t hc hf
          refine lv_iinc (v := t2 + 1) (lv' := [(3, .int (t2 + 1)), (0, .ref (ad 0)), (1, .int v1), (2, .int t1)]) hx hb dX0_sightFrom_27 hl (k := 3) rfl rfl (by decide) rfl (fun ls hl => ?_)
          refine lv_goto (tgt := 4) hx hb dX0_sightFrom_30 (by decide) ?_
          have hw := wp_in hf
          exact ih _ _ _ _ _ hw hH (lv_sub hl [1, 2, 3, 0] rfl)
        · have hf := wp_f hc hf
          refine lv_iload_n hx hb dX0_sightFrom_21 rfl (lv_at hl 2 rfl) ?_
          refine lv_iconst (v := 1) hx hb dX0_sightFrom_22 (by decide) ?_
          refine lv_iload_n hx hb dX0_sightFrom_23 rfl (lv_at hl 3 rfl) ?_
          refine lv_ishl hx hb dX0_sightFrom_24 ?_
          refine lv_ior hx hb dX0_sightFrom_25 ?_
          refine lv_istore_n (lv' := [(2, .int (t1 ||| ((1 : Int32) <<< (t2 &&& 31)))), (0, .ref (ad 0)), (1, .int v1), (3, .int t2)]) hx hb dX0_sightFrom_26 rfl hl (by decide) rfl (fun ls hl => ?_)
          refine lv_iinc (v := t2 + 1) (lv' := [(3, .int (t2 + 1)), (2, .int (t1 ||| ((1 : Int32) <<< (t2 &&& 31)))), (0, .ref (ad 0)), (1, .int v1)]) hx hb dX0_sightFrom_27 hl (k := 3) rfl rfl (by decide) rfl (fun ls hl => ?_)
          refine lv_goto (tgt := 4) hx hb dX0_sightFrom_30 (by decide) ?_
          have hw := wp_in hf
          exact ih _ _ _ _ _ hw hH (lv_sub hl [2, 3, 1, 0] rfl)
  refine LP _ (fun t3 H locs ls hf hH hl => ?_) fu _ _ _ _ _ (wp_bb hf) hH (lv_sub hl [2, 3, 1, 0] rfl)
  refine lv_iload_n hx hb dX0_sightFrom_33 rfl (lv_at hl 0 rfl) ?_
  have hrs := wp_s hf
  subst hrs
  exact RET H locs ls 34 dX0_sightFrom_34 rfl hH

def bX0_deciderIn_8 (v1 : Int32) (g : LandT) : (Int32 × Int32 × Int32) → Option ((Int32 × Int32 × Int32) ⊕ (Int32)) := fun ((t1, t2, t3) : Int32 × Int32 × Int32) =>
  if (gN g) ≤ t3 then
    some (.inr t1)
  else
    Option.bind (if ((v1 >>> (t3 &&& 31)) &&& 1) = 1 then
        if ob t3 7 then none else
        if ob ((gK g) (Int32.toNatClampNeg t3)) 6 then none else
        if ((gV g) (Int32.toNatClampNeg ((gK g) (Int32.toNatClampNeg t3)))) = 0 then
          some 0
        else
          some 1
      else
        some 0) fun (t5 : Int32) =>
    if t5 = 0 then
      some (.inl (t1, t2, t3 + 1))
    else
      if ob t3 7 then none else
      if ob ((gK g) (Int32.toNatClampNeg t3)) 6 then none else
      if ((gQ g) (Int32.toNatClampNeg ((gK g) (Int32.toNatClampNeg t3)))) ≤ t2 then
        some (.inl (t1, t2, t3 + 1))
      else
        if ob t3 7 then none else
        if ob ((gK g) (Int32.toNatClampNeg t3)) 6 then none else
        some (.inl (t3, (gQ g) (Int32.toNatClampNeg ((gK g) (Int32.toNatClampNeg t3))), t3 + 1))

def fX0_deciderIn (v1 : Int32) (g : LandT) : Option (Int32) :=
  Option.bind (lp (bX0_deciderIn_8 v1 g) fu ((-9), (-1), 0)) fun (t4 : Int32) =>
  some t4

def rmX0_deciderIn : Room := { frames := 0, cells := 0, slots := 0, locals := 0 }
theorem mbX0_deciderIn_f43 : Cond.fieldLink RX0 43 (TX0 7).1 (TX0 7).2.1 (TX0 7).2.2.1 ∈ wsX0_deciderIn := by decide +kernel
theorem inX0_deciderIn_X0 : ∀ w ∈ wsX00, w ∈ wsX0_deciderIn := by decide +kernel
theorem mbX0_deciderIn_f27 : Cond.fieldLink RX0 27 (TX0 5).1 (TX0 5).2.1 (TX0 5).2.2.1 ∈ wsX0_deciderIn := by decide +kernel
theorem mbX0_deciderIn_f18 : Cond.fieldLink RX0 18 (TX0 2).1 (TX0 2).2.1 (TX0 2).2.2.1 ∈ wsX0_deciderIn := by decide +kernel
theorem mbX0_deciderIn_f30 : Cond.fieldLink RX0 30 (TX0 6).1 (TX0 6).2.1 (TX0 6).2.2.1 ∈ wsX0_deciderIn := by decide +kernel
theorem hdVX0_deciderIn : yX0_deciderIn.cls = RX0 ∧ yX0_deciderIn.cls ≠ "java/lang/invoke/MethodHandle" ∧ yX0_deciderIn.cls ≠ "java/lang/invoke/VarHandle" ∧ (parseMethodDescriptor yX0_deciderIn.desc).map (fun d => d.parameters.length) = some 1 := by decide +kernel
set_option maxHeartbeats 4000000 in
set_option maxRecDepth 100000 in
theorem ctX0_deciderIn {l : Launch} {D : va_G} {cI cJ cQ : ClassId} (ad : Nat → Nat) (g : LandT) (v1 : Int32) {res : Int32} (h : fX0_deciderIn v1 g = some res) : CtI l D cI cJ cQ yX0_deciderIn wsX0_deciderIn rmX0_deciderIn [.ref (ad 0), .int v1] (wLd cI ad g) res (wLd cI ad g) := by
  refine ctI_of .int (cc := cX0_deciderIn) (maxL := 6) (by decide) rfl (Nat.le_of_ble_eq_true rfl) ?_
  intro p e s m args below meth c A Q ls F hK hA RET hH hl
  obtain ⟨hx, hb, hml, hown, hts⟩ := id F
  have hl : lv_has ls 6 [(0, .ref (ad 0)), (1, .int v1)] := hl
  have hf : wpO (fX0_deciderIn v1 g) (fun v => v = res) := ⟨_, h, rfl⟩
  obtain ⟨H, eH⟩ : ∃ H, H = s.heap := ⟨_, rfl⟩
  obtain ⟨locs, eL⟩ : ∃ locs : List Loc, locs = [] := ⟨_, rfl⟩
  have hH : Hs D A s.heap (wLd cI ad g) H locs := by rw [eH, eL]; exact hH
  rw [← eL]
  suffices hgo : W p l e rmX0_deciderIn s m args below meth c H locs 0 0 Q (F0 m 0 ls []) by rw [eH] at hgo; exact hgo
  clear eH eL
  refine lv_bipush (v := (-9)) hx hb dX0_deciderIn_0 (by decide) ?_
  refine lv_istore_n (lv' := [(2, .int (-9)), (0, .ref (ad 0)), (1, .int v1)]) hx hb dX0_deciderIn_2 rfl hl (by decide) rfl (fun ls hl => ?_)
  refine lv_iconst (v := (-1)) hx hb dX0_deciderIn_3 (by decide) ?_
  refine lv_istore_n (lv' := [(3, .int (-1)), (2, .int (-9)), (0, .ref (ad 0)), (1, .int v1)]) hx hb dX0_deciderIn_4 rfl hl (by decide) rfl (fun ls hl => ?_)
  refine lv_iconst (v := 0) hx hb dX0_deciderIn_5 (by decide) ?_
  refine lv_istore (lv' := [(4, .int 0), (3, .int (-1)), (2, .int (-9)), (0, .ref (ad 0)), (1, .int v1)]) hx hb dX0_deciderIn_6 hl (by decide) rfl (fun ls hl => ?_)
  have LP : ∀ (Φ : (Int32) → Prop), (∀ (t4 : Int32) (H : Heap) (locs : List Loc) (ls : Array Slot), Φ (t4) → Hs D A s.heap (wLd cI ad g) H locs → lv_has ls 6 [(2, .int t4)] → W p l e rmX0_deciderIn s m args below meth c H locs 0 0 Q (F0 m 92 ls [])) → ∀ (n : Nat) (t1 : Int32) (t2 : Int32) (t3 : Int32) (H : Heap) (locs : List Loc) (ls : Array Slot), wpO (lp (bX0_deciderIn_8 v1 g) n (t1, t2, t3)) Φ → Hs D A s.heap (wLd cI ad g) H locs → lv_has ls 6 [(0, .ref (ad 0)), (1, .int v1), (2, .int t1), (3, .int t2), (4, .int t3)] → W p l e rmX0_deciderIn s m args below meth c H locs 0 0 Q (F0 m 8 ls []) := by
    intro Φ EX n
    induction n with
    | zero =>
      intro t1 t2 t3 H locs ls hf hH hl
      exact (wp_l0 hf).elim
    | succ n ih =>
      intro t1 t2 t3 H locs ls hf hH hl
      have hf := wp_l hf
      refine lv_iload hx hb dX0_deciderIn_8 (lv_at hl 4 rfl) ?_
      refine lv_aload_n hx hb dX0_deciderIn_10 rfl (lv_at hl 0 rfl) ?_
      refine k_get (v := .int (gN g)) F hK hH 0 inX0_deciderIn_X0 7 mbX0_deciderIn_f43 dX0_deciderIn_11 rfl rfl (by decide) rfl ?_
      refine lv_icmp_ge (tgt := 92) hx hb dX0_deciderIn_14 (by decide) (fun hc => ?_) (fun hc => ?_)
      · have hf := wp_t hc hf
        have hw := wp_out hf
        exact EX _ _ _ _ hw hH (lv_sub hl [2] rfl)
      · have hf := wp_f hc hf
        refine lv_iload_n hx hb dX0_deciderIn_17 rfl (lv_at hl 1 rfl) ?_
        refine lv_iload hx hb dX0_deciderIn_18 (lv_at hl 4 rfl) ?_
        refine lv_ishr hx hb dX0_deciderIn_20 ?_
        refine lv_iconst (v := 1) hx hb dX0_deciderIn_21 (by decide) ?_
        refine lv_iand hx hb dX0_deciderIn_22 ?_
        refine lv_iconst (v := 1) hx hb dX0_deciderIn_23 (by decide) ?_
        refine join_ (α := Int32) (fun Φ => ∀ (t5 : Int32) (H : Heap) (locs : List Loc) (ls : Array Slot), Φ t5 → Hs D A s.heap (wLd cI ad g) H locs → lv_has ls 6 [(0, .ref (ad 0)), (1, .int v1), (2, .int t1), (3, .int t2), (4, .int t3)] → W p l e rmX0_deciderIn s m args below meth c H locs 0 0 Q (F0 m 47 ls [.int t5])) (wp_bb hf) ?_ ?_
        · intro t5 H locs ls hf hH hl
          refine lv_istore (lv' := [(5, .int t5), (0, .ref (ad 0)), (1, .int v1), (2, .int t1), (3, .int t2), (4, .int t3)]) hx hb dX0_deciderIn_47 hl (by decide) rfl (fun ls hl => ?_)
          refine lv_iload hx hb dX0_deciderIn_49 (lv_at hl 0 rfl) ?_
          refine lv_if_eq (tgt := 86) hx hb dX0_deciderIn_51 (by decide) (fun hc => ?_) (fun hc => ?_)
          · have hf := wp_t hc hf
            refine lv_iinc (v := t3 + 1) (lv' := [(4, .int (t3 + 1)), (5, .int t5), (0, .ref (ad 0)), (1, .int v1), (2, .int t1), (3, .int t2)]) hx hb dX0_deciderIn_86 hl (k := 5) rfl rfl (by decide) rfl (fun ls hl => ?_)
            refine lv_goto (tgt := 8) hx hb dX0_deciderIn_89 (by decide) ?_
            have hw := wp_in hf
            exact ih _ _ _ _ _ _ hw hH (lv_sub hl [2, 3, 4, 5, 0] rfl)
          · have hf := wp_f hc hf
            refine lv_aload_n hx hb dX0_deciderIn_54 rfl (lv_at hl 1 rfl) ?_
            refine k_get (v := .ref (ad 7)) F hK hH 0 inX0_deciderIn_X0 6 mbX0_deciderIn_f30 dX0_deciderIn_55 rfl rfl (by decide) rfl ?_
            refine lv_aload_n hx hb dX0_deciderIn_58 rfl (lv_at hl 1 rfl) ?_
            refine k_get (v := .ref (ad 3)) F hK hH 0 inX0_deciderIn_X0 2 mbX0_deciderIn_f18 dX0_deciderIn_59 rfl rfl (by decide) rfl ?_
            refine lv_iload hx hb dX0_deciderIn_62 (lv_at hl 5 rfl) ?_
            obtain ⟨hi, hf⟩ := wp_n hf
            refine k_iald (f := gK g) (n := 7) F hK hH 3 dX0_deciderIn_64 hi rfl ?_
            obtain ⟨hi, hf⟩ := wp_n hf
            refine k_iald (f := gQ g) (n := 6) F hK hH 7 dX0_deciderIn_65 hi rfl ?_
            refine lv_iload_n hx hb dX0_deciderIn_66 rfl (lv_at hl 4 rfl) ?_
            refine lv_icmp_le (tgt := 86) hx hb dX0_deciderIn_67 (by decide) (fun hc => ?_) (fun hc => ?_)
            · have hf := wp_t hc hf
              refine lv_iinc (v := t3 + 1) (lv' := [(4, .int (t3 + 1)), (5, .int t5), (0, .ref (ad 0)), (1, .int v1), (2, .int t1), (3, .int t2)]) hx hb dX0_deciderIn_86 hl (k := 5) rfl rfl (by decide) rfl (fun ls hl => ?_)
              refine lv_goto (tgt := 8) hx hb dX0_deciderIn_89 (by decide) ?_
              have hw := wp_in hf
              exact ih _ _ _ _ _ _ hw hH (lv_sub hl [2, 3, 4, 5, 0] rfl)
            · have hf := wp_f hc hf
              refine lv_aload_n hx hb dX0_deciderIn_70 rfl (lv_at hl 1 rfl) ?_
              refine k_get (v := .ref (ad 7)) F hK hH 0 inX0_deciderIn_X0 6 mbX0_deciderIn_f30 dX0_deciderIn_71 rfl rfl (by decide) rfl ?_
              refine lv_aload_n hx hb dX0_deciderIn_74 rfl (lv_at hl 1 rfl) ?_
              refine k_get (v := .ref (ad 3)) F hK hH 0 inX0_deciderIn_X0 2 mbX0_deciderIn_f18 dX0_deciderIn_75 rfl rfl (by decide) rfl ?_
              refine lv_iload hx hb dX0_deciderIn_78 (lv_at hl 5 rfl) ?_
              obtain ⟨hi, hf⟩ := wp_n hf
              refine k_iald (f := gK g) (n := 7) F hK hH 3 dX0_deciderIn_80 hi rfl ?_
              obtain ⟨hi, hf⟩ := wp_n hf
              refine k_iald (f := gQ g) (n := 6) F hK hH 7 dX0_deciderIn_81 hi rfl ?_
              refine lv_istore_n (lv' := [(3, .int ((gQ g) (Int32.toNatClampNeg ((gK g) (Int32.toNatClampNeg t3))))), (5, .int t5), (0, .ref (ad 0)), (1, .int v1), (2, .int t1), (4, .int t3)]) hx hb dX0_deciderIn_82 rfl hl (by decide) rfl (fun ls hl => ?_)
              refine lv_iload hx hb dX0_deciderIn_83 (lv_at hl 5 rfl) ?_
              refine lv_istore_n (lv' := [(2, .int t3), (3, .int ((gQ g) (Int32.toNatClampNeg ((gK g) (Int32.toNatClampNeg t3))))), (5, .int t5), (0, .ref (ad 0)), (1, .int v1), (4, .int t3)]) hx hb dX0_deciderIn_85 rfl hl (by decide) rfl (fun ls hl => ?_)
              refine lv_iinc (v := t3 + 1) (lv' := [(4, .int (t3 + 1)), (2, .int t3), (3, .int ((gQ g) (Int32.toNatClampNeg ((gK g) (Int32.toNatClampNeg t3))))), (5, .int t5), (0, .ref (ad 0)), (1, .int v1)]) hx hb dX0_deciderIn_86 hl (k := 5) rfl rfl (by decide) rfl (fun ls hl => ?_)
              refine lv_goto (tgt := 8) hx hb dX0_deciderIn_89 (by decide) ?_
              have hw := wp_in hf
              exact ih _ _ _ _ _ _ hw hH (lv_sub hl [4, 5, 1, 2, 0] rfl)
        · intro Φ JJ hf
          refine lv_icmp_ne (tgt := 46) hx hb dX0_deciderIn_24 (by decide) (fun hc => ?_) (fun hc => ?_)
          · have hf := wp_f hc hf
            refine lv_iconst (v := 0) hx hb dX0_deciderIn_46 (by decide) ?_
            have hw := wp_s hf
            exact JJ _ _ _ _ hw hH (lv_sub hl [0, 1, 2, 3, 4] rfl)
          · have hf := wp_t hc hf
            refine lv_aload_n hx hb dX0_deciderIn_27 rfl (lv_at hl 0 rfl) ?_
            refine k_get (v := .ref (ad 6)) F hK hH 0 inX0_deciderIn_X0 5 mbX0_deciderIn_f27 dX0_deciderIn_28 rfl rfl (by decide) rfl ?_
            refine lv_aload_n hx hb dX0_deciderIn_31 rfl (lv_at hl 0 rfl) ?_
            refine k_get (v := .ref (ad 3)) F hK hH 0 inX0_deciderIn_X0 2 mbX0_deciderIn_f18 dX0_deciderIn_32 rfl rfl (by decide) rfl ?_
            refine lv_iload hx hb dX0_deciderIn_35 (lv_at hl 4 rfl) ?_
            obtain ⟨hi, hf⟩ := wp_n hf
            refine k_iald (f := gK g) (n := 7) F hK hH 3 dX0_deciderIn_37 hi rfl ?_
            obtain ⟨hi, hf⟩ := wp_n hf
            refine k_iald (f := gV g) (n := 6) F hK hH 6 dX0_deciderIn_38 hi rfl ?_
            refine lv_if_eq (tgt := 46) hx hb dX0_deciderIn_39 (by decide) (fun hc => ?_) (fun hc => ?_)
            · have hf := wp_t hc hf
              refine lv_iconst (v := 0) hx hb dX0_deciderIn_46 (by decide) ?_
              have hw := wp_s hf
              exact JJ _ _ _ _ hw hH (lv_sub hl [0, 1, 2, 3, 4] rfl)
            · have hf := wp_f hc hf
              refine lv_iconst (v := 1) hx hb dX0_deciderIn_42 (by decide) ?_
              refine lv_goto (tgt := 47) hx hb dX0_deciderIn_43 (by decide) ?_
              have hw := wp_s hf
              exact JJ _ _ _ _ hw hH (lv_sub hl [0, 1, 2, 3, 4] rfl)
  refine LP _ (fun t4 H locs ls hf hH hl => ?_) fu _ _ _ _ _ _ (wp_bb hf) hH (lv_sub hl [3, 4, 2, 1, 0] rfl)
  refine lv_iload_n hx hb dX0_deciderIn_92 rfl (lv_at hl 0 rfl) ?_
  have hrs := wp_s hf
  subst hrs
  exact RET H locs ls 93 dX0_deciderIn_93 rfl hH

