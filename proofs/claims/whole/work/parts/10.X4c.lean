def bX4_readsNumber_9 (v1 : Int32) (v2 : Int32) (xl : (Nat → Int32)) (xn : Int32) : (Int32 × Int32 × (Nat → Int32)) → Option ((Int32 × Int32 × (Nat → Int32)) ⊕ ((Int32 × Int32 × (Nat → Int32)) ⊕ (Int32 × (Nat → Int32)))) := fun ((t1, t2, t3) : Int32 × Int32 × (Nat → Int32)) =>
  if v2 ≤ t1 then
    some (.inr (.inr (t2, t3)))
  else
    Option.bind (fX4_here xl xn t2) fun x6 =>
    Option.bind (fX4_isIn x6 48 57) fun x7 =>
    if x7 = 0 then
      some (.inr (.inl (0, t2, t3)))
    else
      if ob v1 3 then none else
      Option.bind (fX4_here xl xn t2) fun x8 =>
      if ob v1 3 then none else
      some (.inl (t1 + 1, t2 + 1, upd t3 (Int32.toNatClampNeg v1) (((10 * (t3 (Int32.toNatClampNeg v1))) + x8) - 48)))

def fX4_readsNumber (v1 : Int32) (v2 : Int32) (xl : (Nat → Int32)) (xn : Int32) (xp : Int32) (xu : (Nat → Int32)) : Option (Int32 × Int32 × (Nat → Int32)) :=
  if ob v1 3 then none else
  Option.bind (lp (bX4_readsNumber_9 v1 v2 xl xn) fu (0, xp, upd xu (Int32.toNatClampNeg v1) 0)) (el (fun v => some v) (fun ((t4, t5) : Int32 × (Nat → Int32)) =>
    some (1, t4, t5)))

def rmX4_readsNumber : Room := { frames := 1, cells := 0, slots := 0, locals := 22 }
theorem mbX4_readsNumber_f31 : Cond.fieldLink RX4 31 (TX4 11).1 (TX4 11).2.1 (TX4 11).2.2.1 ∈ wsX4_readsNumber := by decide +kernel
theorem inX4_readsNumber_X4 : ∀ w ∈ wsX40, w ∈ wsX4_readsNumber := by decide +kernel
theorem mbX4_readsNumber_f84 : Cond.fieldLink RX4 84 (TX4 10).1 (TX4 10).2.1 (TX4 10).2.2.1 ∈ wsX4_readsNumber := by decide +kernel
theorem hdVX4_readsNumber : yX4_readsNumber.cls = RX4 ∧ yX4_readsNumber.cls ≠ "java/lang/invoke/MethodHandle" ∧ yX4_readsNumber.cls ≠ "java/lang/invoke/VarHandle" ∧ (parseMethodDescriptor yX4_readsNumber.desc).map (fun d => d.parameters.length) = some 2 := by decide +kernel
set_option maxHeartbeats 4000000 in
set_option maxRecDepth 100000 in
theorem ctX4_readsNumber {l : Launch} {D : va_G} {cI cJ cQ : ClassId} (ad : Nat → Nat) (xs : (Nat → Int32)) (xm : (Nat → Int32)) (xi : (Nat → Int32)) (xw : (Nat → Int32)) (xh : Int32) (xl : (Nat → Int32)) (xr : (Nat → Int32)) (xe : (Nat → Int32)) (xn : Int32) (xo : Int32) (xp : Int32) (xu : (Nat → Int32)) (xd : Int32) (v1 : Int32) (v2 : Int32) {res : Int32 × Int32 × (Nat → Int32)} (h : fX4_readsNumber v1 v2 xl xn xp xu = some res) : CtI l D cI cJ cQ yX4_readsNumber wsX4_readsNumber rmX4_readsNumber [.ref (ad 0), .int v1, .int v2] (wMd cI ad xs xm xi xw xh xl xr xe xn xo xp xu xd) res.1 (wMd cI ad xs xm xi xw xh xl xr xe xn xo res.2.1 res.2.2 xd) := by
  refine ctI_of .boolean (cc := cX4_readsNumber) (maxL := 4) (by decide) rfl (Nat.le_of_ble_eq_true rfl) ?_
  intro p e s m args below meth c A Q ls F hK hA RET hH hl
  obtain ⟨hx, hb, hml, hown, hts⟩ := id F
  have hl : lv_has ls 4 [(0, .ref (ad 0)), (1, .int v1), (2, .int v2)] := hl
  have hf : wpO (fX4_readsNumber v1 v2 xl xn xp xu) (fun v => v = res) := ⟨_, h, rfl⟩
  obtain ⟨H, eH⟩ : ∃ H, H = s.heap := ⟨_, rfl⟩
  obtain ⟨locs, eL⟩ : ∃ locs : List Loc, locs = [] := ⟨_, rfl⟩
  have hH : Hs D A s.heap (wMd cI ad xs xm xi xw xh xl xr xe xn xo xp xu xd) H locs := by rw [eH, eL]; exact hH
  rw [← eL]
  suffices hgo : W p l e rmX4_readsNumber s m args below meth c H locs 0 0 Q (F0 m 0 ls []) by rw [eH] at hgo; exact hgo
  clear eH eL
  refine lv_aload_n hx hb dX4_readsNumber_0 rfl (lv_at hl 0 rfl) ?_
  refine k_get (v := .ref (ad 8)) F hK hH 0 inX4_readsNumber_X4 11 mbX4_readsNumber_f31 dX4_readsNumber_1 rfl rfl (by decide) rfl ?_
  refine lv_iload_n hx hb dX4_readsNumber_4 rfl (lv_at hl 1 rfl) ?_
  refine lv_iconst (v := 0) hx hb dX4_readsNumber_5 (by decide) ?_
  obtain ⟨hi, hf⟩ := wp_n hf
  refine k_iast (f := xu) (n := 3) F hK hH 8 dX4_readsNumber_6 hi rfl (fun H locs hH => ?_)
  have hH : Hs D A s.heap (wMd cI ad xs xm xi xw xh xl xr xe xn xo xp (upd xu (Int32.toNatClampNeg v1) 0) xd) H locs := hH
  refine lv_iconst (v := 0) hx hb dX4_readsNumber_7 (by decide) ?_
  refine lv_istore_n (lv' := [(3, .int 0), (0, .ref (ad 0)), (1, .int v1), (2, .int v2)]) hx hb dX4_readsNumber_8 rfl hl (by decide) rfl (fun ls hl => ?_)
  have LP : ∀ (Φ : ((Int32 × Int32 × (Nat → Int32)) ⊕ (Int32 × (Nat → Int32))) → Prop), (∀ v : Int32 × Int32 × (Nat → Int32), Φ (.inl v) → v = res) → (∀ (t4 : Int32) (t5 : (Nat → Int32)) (H : Heap) (locs : List Loc) (ls : Array Slot), Φ (.inr (t4, t5)) → Hs D A s.heap (wMd cI ad xs xm xi xw xh xl xr xe xn xo t4 t5 xd) H locs → lv_has ls 4 [] → W p l e rmX4_readsNumber s m args below meth c H locs 0 0 Q (F0 m 69 ls [])) → ∀ (n : Nat) (t1 : Int32) (t2 : Int32) (t3 : (Nat → Int32)) (H : Heap) (locs : List Loc) (ls : Array Slot), wpO (lp (bX4_readsNumber_9 v1 v2 xl xn) n (t1, t2, t3)) Φ → Hs D A s.heap (wMd cI ad xs xm xi xw xh xl xr xe xn xo t2 t3 xd) H locs → lv_has ls 4 [(0, .ref (ad 0)), (1, .int v1), (2, .int v2), (3, .int t1)] → W p l e rmX4_readsNumber s m args below meth c H locs 0 0 Q (F0 m 9 ls []) := by
    intro Φ hret EX n
    induction n with
    | zero =>
      intro t1 t2 t3 H locs ls hf hH hl
      exact (wp_l0 hf).elim
    | succ n ih =>
      intro t1 t2 t3 H locs ls hf hH hl
      have hf := wp_l hf
      refine lv_iload_n hx hb dX4_readsNumber_9 rfl (lv_at hl 3 rfl) ?_
      refine lv_iload_n hx hb dX4_readsNumber_10 rfl (lv_at hl 2 rfl) ?_
      refine lv_icmp_ge (tgt := 69) hx hb dX4_readsNumber_11 (by decide) (fun hc => ?_) (fun hc => ?_)
      · have hf := wp_t hc hf
        have hw := wp_out hf
        exact EX _ _ _ _ _ hw hH (lv_sub hl [] rfl)
      · have hf := wp_f hc hf
        refine lv_aload_n hx hb dX4_readsNumber_14 rfl (lv_at hl 0 rfl) ?_
        obtain ⟨x6, hcl, hf⟩ := wp_b hf
        refine k_Vi0 F hK hH hA hl.1 ⟨Nat.zero_le _, Nat.zero_le _⟩ [] [] (ctX4_here ad xs xm xi xw xh xl xr xe xn xo t2 t3 xd hcl) (cwV 0 hts gX4_readsNumber_X4_here rfl rfl rfl hdVX4_here ⟨Nat.le_of_ble_eq_true rfl, Nat.le_of_ble_eq_true rfl⟩) dX4_readsNumber_15 0 rfl rfl rfl rfl rfl (Nat.le_of_ble_eq_true rfl) rfl (fun H locs hH => ?_)
        have hH : Hs D A s.heap (wMd cI ad xs xm xi xw xh xl xr xe xn xo t2 t3 xd) H locs := hH
        refine lv_bipush (v := 48) hx hb dX4_readsNumber_18 (by decide) ?_
        refine lv_bipush (v := 57) hx hb dX4_readsNumber_20 (by decide) ?_
        obtain ⟨x7, hcl, hf⟩ := wp_b hf
        refine k_Si F hK hH hA hl.1 ⟨Nat.zero_le _, Nat.zero_le _⟩ [] [.int x6, .int 48, .int 57] [] (ctX4_isIn x6 48 57 hcl) (va_cwS 3 hts gX4_readsNumber_X4_isIn rfl rfl rfl hdSX4_isIn ⟨Nat.le_of_ble_eq_true rfl, Nat.le_of_ble_eq_true rfl⟩) dX4_readsNumber_22 rfl rfl (Nat.le_of_ble_eq_true rfl) rfl rfl (by decide) (fun H locs hH => ?_)
        have hH : Hs D A s.heap (wMd cI ad xs xm xi xw xh xl xr xe xn xo t2 t3 xd) H locs := hH
        refine lv_if_ne (tgt := 30) hx hb dX4_readsNumber_25 (by decide) (fun hc => ?_) (fun hc => ?_)
        · have hf := wp_f hc hf
          refine lv_aload_n hx hb dX4_readsNumber_30 rfl (lv_at hl 0 rfl) ?_
          refine k_get (v := .ref (ad 8)) F hK hH 0 inX4_readsNumber_X4 11 mbX4_readsNumber_f31 dX4_readsNumber_31 rfl rfl (by decide) rfl ?_
          refine lv_iload_n hx hb dX4_readsNumber_34 rfl (lv_at hl 1 rfl) ?_
          refine lv_bipush (v := 10) hx hb dX4_readsNumber_35 (by decide) ?_
          refine lv_aload_n hx hb dX4_readsNumber_37 rfl (lv_at hl 0 rfl) ?_
          refine k_get (v := .ref (ad 8)) F hK hH 0 inX4_readsNumber_X4 11 mbX4_readsNumber_f31 dX4_readsNumber_38 rfl rfl (by decide) rfl ?_
          refine lv_iload_n hx hb dX4_readsNumber_41 rfl (lv_at hl 1 rfl) ?_
          obtain ⟨hi, hf⟩ := wp_n hf
          refine k_iald (f := t3) (n := 3) F hK hH 8 dX4_readsNumber_42 hi rfl ?_
          refine lv_imul hx hb dX4_readsNumber_43 ?_
          refine lv_aload_n hx hb dX4_readsNumber_44 rfl (lv_at hl 0 rfl) ?_
          obtain ⟨x8, hcl, hf⟩ := wp_b hf
          refine k_Vi0 F hK hH hA hl.1 ⟨Nat.zero_le _, Nat.zero_le _⟩ [] [.int (10 * (t3 (Int32.toNatClampNeg v1))), .int v1, .ref (ad 8)] (ctX4_here ad xs xm xi xw xh xl xr xe xn xo t2 t3 xd hcl) (cwV 0 hts gX4_readsNumber_X4_here rfl rfl rfl hdVX4_here ⟨Nat.le_of_ble_eq_true rfl, Nat.le_of_ble_eq_true rfl⟩) dX4_readsNumber_45 0 rfl rfl rfl rfl rfl (Nat.le_of_ble_eq_true rfl) rfl (fun H locs hH => ?_)
          have hH : Hs D A s.heap (wMd cI ad xs xm xi xw xh xl xr xe xn xo t2 t3 xd) H locs := hH
          refine lv_iadd hx hb dX4_readsNumber_48 ?_
          refine lv_bipush (v := 48) hx hb dX4_readsNumber_49 (by decide) ?_
          refine lv_isub hx hb dX4_readsNumber_51 ?_
          obtain ⟨hi, hf⟩ := wp_n hf
          refine k_iast (f := t3) (n := 3) F hK hH 8 dX4_readsNumber_52 hi rfl (fun H locs hH => ?_)
          have hH : Hs D A s.heap (wMd cI ad xs xm xi xw xh xl xr xe xn xo t2 (upd t3 (Int32.toNatClampNeg v1) (((10 * (t3 (Int32.toNatClampNeg v1))) + x8) - 48)) xd) H locs := hH
          refine lv_aload_n hx hb dX4_readsNumber_53 rfl (lv_at hl 0 rfl) ?_
          refine lv_dup hx hb dX4_readsNumber_54 rfl ?_
          refine k_get (v := .int t2) F hK hH 0 inX4_readsNumber_X4 10 mbX4_readsNumber_f84 dX4_readsNumber_55 rfl rfl (by decide) rfl ?_
          refine lv_iconst (v := 1) hx hb dX4_readsNumber_58 (by decide) ?_
          refine lv_iadd hx hb dX4_readsNumber_59 ?_
          refine k_put (v := .int (t2 + 1)) F hK hH 0 inX4_readsNumber_X4 tyX4 tyX4_ok nmX4 10 mbX4_readsNumber_f84 dX4_readsNumber_60 rfl rfl (by decide) rfl rfl rfl (Nat.le_of_ble_eq_true rfl) (fun H locs hH => ?_)
          have hH : Hs D A s.heap (wMd cI ad xs xm xi xw xh xl xr xe xn xo (t2 + 1) (upd t3 (Int32.toNatClampNeg v1) (((10 * (t3 (Int32.toNatClampNeg v1))) + x8) - 48)) xd) H locs := hH
          refine lv_iinc (v := t1 + 1) (lv' := [(3, .int (t1 + 1)), (0, .ref (ad 0)), (1, .int v1), (2, .int v2)]) hx hb dX4_readsNumber_63 hl (k := 3) rfl rfl (by decide) rfl (fun ls hl => ?_)
          refine lv_goto (tgt := 9) hx hb dX4_readsNumber_66 (by decide) ?_
          have hw := wp_in hf
          exact ih _ _ _ _ _ _ hw hH (lv_sub hl [1, 2, 3, 0] rfl)
        · have hf := wp_t hc hf
          refine lv_iconst (v := 0) hx hb dX4_readsNumber_28 (by decide) ?_
          have hrs := hret _ (wp_out hf)
          subst hrs
          exact RET H locs ls 29 dX4_readsNumber_29 (by show narrow .boolean (.int 0) = .int 0; rfl) hH
  refine LP _ (fun v hv => by have h9 := wp_s hv; exact h9) (fun t4 t5 H locs ls hf hH hl => ?_) fu _ _ _ _ _ _ (wp_bb hf) hH (lv_sub hl [1, 2, 3, 0] rfl)
  refine lv_iconst (v := 1) hx hb dX4_readsNumber_69 (by decide) ?_
  have hrs := wp_s hf
  subst hrs
  exact RET H locs ls 70 dX4_readsNumber_70 (by show narrow .boolean (.int 1) = .int 1; rfl) hH

def fX4_kindBy (v0 : Int32) : Option (Int32) :=
  if v0 = 98 then
    some 4
  else
    if v0 = 99 then
      some 3
    else
      if v0 = 104 then
        some 2
      else
        if v0 = 115 then
          some 1
        else
          if v0 = 116 then
            some 0
          else
            if v0 = 119 then
              some 5
            else
              some (-9)

def rmX4_kindBy : Room := { frames := 0, cells := 0, slots := 0, locals := 0 }
theorem hdSX4_kindBy : yX4_kindBy.cls ≠ "java/lang/invoke/MethodHandle" ∧ yX4_kindBy.cls ≠ "java/lang/invoke/VarHandle" ∧ (parseMethodDescriptor yX4_kindBy.desc).map (fun d => d.parameters.length) = some 1 := by decide +kernel
set_option maxHeartbeats 4000000 in
set_option maxRecDepth 100000 in
theorem ctX4_kindBy {l : Launch} {D : va_G} {cI cJ cQ : ClassId}   (v0 : Int32) {res : Int32} (h : fX4_kindBy v0 = some res) : CtI l D cI cJ cQ yX4_kindBy wsX4_kindBy rmX4_kindBy [.int v0] ([]) res ([]) := by
  refine ctI_of .int (cc := cX4_kindBy) (maxL := 1) (by decide) rfl (Nat.le_of_ble_eq_true rfl) ?_
  intro p e s m args below meth c A Q ls F hK hA RET hH hl
  obtain ⟨hx, hb, hml, hown, hts⟩ := id F
  have hl : lv_has ls 1 [(0, .int v0)] := hl
  have hf : wpO (fX4_kindBy v0) (fun v => v = res) := ⟨_, h, rfl⟩
  obtain ⟨H, eH⟩ : ∃ H, H = s.heap := ⟨_, rfl⟩
  obtain ⟨locs, eL⟩ : ∃ locs : List Loc, locs = [] := ⟨_, rfl⟩
  have hH : Hs D A s.heap ([]) H locs := by rw [eH, eL]; exact hH
  rw [← eL]
  suffices hgo : W p l e rmX4_kindBy s m args below meth c H locs 0 0 Q (F0 m 0 ls []) by rw [eH] at hgo; exact hgo
  clear eH eL
  refine lv_iload_n hx hb dX4_kindBy_0 rfl (lv_at hl 0 rfl) ?_
  by_cases hc0 : v0 = 98
  · have hf := wp_t hc0 hf
    refine lv_lookup (off := 67) (tgt := 68) hx hb dX4_kindBy_1 rfl (by rw [hc0]; try rfl) (by decide) ?_
    refine lv_iconst (v := 4) hx hb dX4_kindBy_68 (by decide) ?_
    have hrs := wp_s hf
    subst hrs
    exact RET H locs ls 69 dX4_kindBy_69 rfl hH
  · have hf := wp_f hc0 hf
    by_cases hc1 : v0 = 99
    · have hf := wp_t hc1 hf
      refine lv_lookup (off := 65) (tgt := 66) hx hb dX4_kindBy_1 rfl (by rw [hc1]; try rfl) (by decide) ?_
      refine lv_iconst (v := 3) hx hb dX4_kindBy_66 (by decide) ?_
      have hrs := wp_s hf
      subst hrs
      exact RET H locs ls 67 dX4_kindBy_67 rfl hH
    · have hf := wp_f hc1 hf
      by_cases hc2 : v0 = 104
      · have hf := wp_t hc2 hf
        refine lv_lookup (off := 63) (tgt := 64) hx hb dX4_kindBy_1 rfl (by rw [hc2]; try rfl) (by decide) ?_
        refine lv_iconst (v := 2) hx hb dX4_kindBy_64 (by decide) ?_
        have hrs := wp_s hf
        subst hrs
        exact RET H locs ls 65 dX4_kindBy_65 rfl hH
      · have hf := wp_f hc2 hf
        by_cases hc3 : v0 = 115
        · have hf := wp_t hc3 hf
          refine lv_lookup (off := 61) (tgt := 62) hx hb dX4_kindBy_1 rfl (by rw [hc3]; try rfl) (by decide) ?_
          refine lv_iconst (v := 1) hx hb dX4_kindBy_62 (by decide) ?_
          have hrs := wp_s hf
          subst hrs
          exact RET H locs ls 63 dX4_kindBy_63 rfl hH
        · have hf := wp_f hc3 hf
          by_cases hc4 : v0 = 116
          · have hf := wp_t hc4 hf
            refine lv_lookup (off := 59) (tgt := 60) hx hb dX4_kindBy_1 rfl (by rw [hc4]; try rfl) (by decide) ?_
            refine lv_iconst (v := 0) hx hb dX4_kindBy_60 (by decide) ?_
            have hrs := wp_s hf
            subst hrs
            exact RET H locs ls 61 dX4_kindBy_61 rfl hH
          · have hf := wp_f hc4 hf
            by_cases hc5 : v0 = 119
            · have hf := wp_t hc5 hf
              refine lv_lookup (off := 69) (tgt := 70) hx hb dX4_kindBy_1 rfl (by rw [hc5]; try rfl) (by decide) ?_
              refine lv_iconst (v := 5) hx hb dX4_kindBy_70 (by decide) ?_
              have hrs := wp_s hf
              subst hrs
              exact RET H locs ls 71 dX4_kindBy_71 rfl hH
            · have hf := wp_f hc5 hf
              refine lv_lookup (off := 71) (tgt := 72) hx hb dX4_kindBy_1 rfl (by show Op.lookupswitch.offset [(98, 67), (99, 65), (104, 63), (115, 61), (116, 59), (119, 69)] 71 (Int32.toInt v0) = 71; rw [lv_osw (a := 98) hc0 rfl, lv_osw (a := 99) hc1 rfl, lv_osw (a := 104) hc2 rfl, lv_osw (a := 115) hc3 rfl, lv_osw (a := 116) hc4 rfl, lv_osw (a := 119) hc5 rfl]; try rfl) (by decide) ?_
              refine lv_bipush (v := (-9)) hx hb dX4_kindBy_72 (by decide) ?_
              have hrs := wp_s hf
              subst hrs
              exact RET H locs ls 74 dX4_kindBy_74 rfl hH

def fX4_readsKind (xl : (Nat → Int32)) (xn : Int32) (xp : Int32) (xu : (Nat → Int32)) : Option (Int32 × Int32 × (Nat → Int32)) :=
  Option.bind (fX4_here xl xn xp) fun x1 =>
  Option.bind (fX4_kindBy x1) fun x2 =>
  Option.bind (if (0 : Int32) ≤ ((upd xu (Int32.toNatClampNeg 0) x2) (Int32.toNatClampNeg 0)) then
      some 1
    else
      some 0) fun (t3 : Int32) =>
  if ((upd xu (Int32.toNatClampNeg 0) x2) (Int32.toNatClampNeg 0)) < 0 then
    some (0, xp + t3, upd xu (Int32.toNatClampNeg 0) x2)
  else
    some (1, xp + t3, upd xu (Int32.toNatClampNeg 0) x2)

def rmX4_readsKind : Room := { frames := 1, cells := 0, slots := 0, locals := 20 }
theorem mbX4_readsKind_f31 : Cond.fieldLink RX4 31 (TX4 11).1 (TX4 11).2.1 (TX4 11).2.2.1 ∈ wsX4_readsKind := by decide +kernel
theorem inX4_readsKind_X4 : ∀ w ∈ wsX40, w ∈ wsX4_readsKind := by decide +kernel
theorem mbX4_readsKind_f84 : Cond.fieldLink RX4 84 (TX4 10).1 (TX4 10).2.1 (TX4 10).2.2.1 ∈ wsX4_readsKind := by decide +kernel
theorem hdVX4_readsKind : yX4_readsKind.cls = RX4 ∧ yX4_readsKind.cls ≠ "java/lang/invoke/MethodHandle" ∧ yX4_readsKind.cls ≠ "java/lang/invoke/VarHandle" ∧ (parseMethodDescriptor yX4_readsKind.desc).map (fun d => d.parameters.length) = some 0 := by decide +kernel
set_option maxHeartbeats 4000000 in
set_option maxRecDepth 100000 in
theorem ctX4_readsKind {l : Launch} {D : va_G} {cI cJ cQ : ClassId} (ad : Nat → Nat) (xs : (Nat → Int32)) (xm : (Nat → Int32)) (xi : (Nat → Int32)) (xw : (Nat → Int32)) (xh : Int32) (xl : (Nat → Int32)) (xr : (Nat → Int32)) (xe : (Nat → Int32)) (xn : Int32) (xo : Int32) (xp : Int32) (xu : (Nat → Int32)) (xd : Int32)  {res : Int32 × Int32 × (Nat → Int32)} (h : fX4_readsKind xl xn xp xu = some res) : CtI l D cI cJ cQ yX4_readsKind wsX4_readsKind rmX4_readsKind [.ref (ad 0)] (wMd cI ad xs xm xi xw xh xl xr xe xn xo xp xu xd) res.1 (wMd cI ad xs xm xi xw xh xl xr xe xn xo res.2.1 res.2.2 xd) := by
  refine ctI_of .boolean (cc := cX4_readsKind) (maxL := 1) (by decide) rfl (Nat.le_of_ble_eq_true rfl) ?_
  intro p e s m args below meth c A Q ls F hK hA RET hH hl
  obtain ⟨hx, hb, hml, hown, hts⟩ := id F
  have hl : lv_has ls 1 [(0, .ref (ad 0))] := hl
  have hf : wpO (fX4_readsKind xl xn xp xu) (fun v => v = res) := ⟨_, h, rfl⟩
  obtain ⟨H, eH⟩ : ∃ H, H = s.heap := ⟨_, rfl⟩
  obtain ⟨locs, eL⟩ : ∃ locs : List Loc, locs = [] := ⟨_, rfl⟩
  have hH : Hs D A s.heap (wMd cI ad xs xm xi xw xh xl xr xe xn xo xp xu xd) H locs := by rw [eH, eL]; exact hH
  rw [← eL]
  suffices hgo : W p l e rmX4_readsKind s m args below meth c H locs 0 0 Q (F0 m 0 ls []) by rw [eH] at hgo; exact hgo
  clear eH eL
  refine lv_aload_n hx hb dX4_readsKind_0 rfl (lv_at hl 0 rfl) ?_
  refine k_get (v := .ref (ad 8)) F hK hH 0 inX4_readsKind_X4 11 mbX4_readsKind_f31 dX4_readsKind_1 rfl rfl (by decide) rfl ?_
  refine lv_iconst (v := 0) hx hb dX4_readsKind_4 (by decide) ?_
  refine lv_aload_n hx hb dX4_readsKind_5 rfl (lv_at hl 0 rfl) ?_
  obtain ⟨x1, hcl, hf⟩ := wp_b hf
  refine k_Vi0 F hK hH hA hl.1 ⟨Nat.zero_le _, Nat.zero_le _⟩ [] [.int 0, .ref (ad 8)] (ctX4_here ad xs xm xi xw xh xl xr xe xn xo xp xu xd hcl) (cwV 0 hts gX4_readsKind_X4_here rfl rfl rfl hdVX4_here ⟨Nat.le_of_ble_eq_true rfl, Nat.le_of_ble_eq_true rfl⟩) dX4_readsKind_6 0 rfl rfl rfl rfl rfl (Nat.le_of_ble_eq_true rfl) rfl (fun H locs hH => ?_)
  have hH : Hs D A s.heap (wMd cI ad xs xm xi xw xh xl xr xe xn xo xp xu xd) H locs := hH
  obtain ⟨x2, hcl, hf⟩ := wp_b hf
  refine k_Si F hK hH hA hl.1 ⟨Nat.zero_le _, Nat.zero_le _⟩ [] [.int x1] [.int 0, .ref (ad 8)] (ctX4_kindBy x1 hcl) (va_cwS 1 hts gX4_readsKind_X4_kindBy rfl rfl rfl hdSX4_kindBy ⟨Nat.le_of_ble_eq_true rfl, Nat.le_of_ble_eq_true rfl⟩) dX4_readsKind_9 rfl rfl (Nat.le_of_ble_eq_true rfl) rfl rfl (by decide) (fun H locs hH => ?_)
  have hH : Hs D A s.heap (wMd cI ad xs xm xi xw xh xl xr xe xn xo xp xu xd) H locs := hH
  refine k_iast (f := xu) (n := 3) F hK hH 8 dX4_readsKind_12 (by decide) rfl (fun H locs hH => ?_)
  have hH : Hs D A s.heap (wMd cI ad xs xm xi xw xh xl xr xe xn xo xp (upd xu (Int32.toNatClampNeg 0) x2) xd) H locs := hH
  refine lv_aload_n hx hb dX4_readsKind_13 rfl (lv_at hl 0 rfl) ?_
  refine lv_dup hx hb dX4_readsKind_14 rfl ?_
  refine k_get (v := .int xp) F hK hH 0 inX4_readsKind_X4 10 mbX4_readsKind_f84 dX4_readsKind_15 rfl rfl (by decide) rfl ?_
  refine lv_aload_n hx hb dX4_readsKind_18 rfl (lv_at hl 0 rfl) ?_
  refine k_get (v := .ref (ad 8)) F hK hH 0 inX4_readsKind_X4 11 mbX4_readsKind_f31 dX4_readsKind_19 rfl rfl (by decide) rfl ?_
  refine lv_iconst (v := 0) hx hb dX4_readsKind_22 (by decide) ?_
  refine k_iald (f := upd xu (Int32.toNatClampNeg 0) x2) (n := 3) F hK hH 8 dX4_readsKind_23 (by decide) rfl ?_
  refine join_ (α := Int32) (fun Φ => ∀ (t3 : Int32) (H : Heap) (locs : List Loc) (ls : Array Slot), Φ t3 → Hs D A s.heap (wMd cI ad xs xm xi xw xh xl xr xe xn xo xp (upd xu (Int32.toNatClampNeg 0) x2) xd) H locs → lv_has ls 1 [(0, .ref (ad 0))] → W p l e rmX4_readsKind s m args below meth c H locs 0 0 Q (F0 m 32 ls [.int t3, .int xp, .ref (ad 0)])) (wp_bb hf) ?_ ?_
  · intro t3 H locs ls hf hH hl
    refine lv_iadd hx hb dX4_readsKind_32 ?_
    refine k_put (v := .int (xp + t3)) F hK hH 0 inX4_readsKind_X4 tyX4 tyX4_ok nmX4 10 mbX4_readsKind_f84 dX4_readsKind_33 rfl rfl (by decide) rfl rfl rfl (Nat.le_of_ble_eq_true rfl) (fun H locs hH => ?_)
    have hH : Hs D A s.heap (wMd cI ad xs xm xi xw xh xl xr xe xn xo (xp + t3) (upd xu (Int32.toNatClampNeg 0) x2) xd) H locs := hH
    refine lv_aload_n hx hb dX4_readsKind_36 rfl (lv_at hl 0 rfl) ?_
    refine k_get (v := .ref (ad 8)) F hK hH 0 inX4_readsKind_X4 11 mbX4_readsKind_f31 dX4_readsKind_37 rfl rfl (by decide) rfl ?_
    refine lv_iconst (v := 0) hx hb dX4_readsKind_40 (by decide) ?_
    refine k_iald (f := upd xu (Int32.toNatClampNeg 0) x2) (n := 3) F hK hH 8 dX4_readsKind_41 (by decide) rfl ?_
    refine lv_if_lt (tgt := 49) hx hb dX4_readsKind_42 (by decide) (fun hc => ?_) (fun hc => ?_)
    · have hf := wp_t hc hf
      refine lv_iconst (v := 0) hx hb dX4_readsKind_49 (by decide) ?_
      have hrs := wp_s hf
      subst hrs
      exact RET H locs ls 50 dX4_readsKind_50 (by show narrow .boolean (.int 0) = .int 0; rfl) hH
    · have hf := wp_f hc hf
      refine lv_iconst (v := 1) hx hb dX4_readsKind_45 (by decide) ?_
      refine lv_goto (tgt := 50) hx hb dX4_readsKind_46 (by decide) ?_
      have hrs := wp_s hf
      subst hrs
      exact RET H locs ls 50 dX4_readsKind_50 (by show narrow .boolean (.int 1) = .int 1; rfl) hH
  · intro Φ JJ hf
    refine lv_if_ge (tgt := 31) hx hb dX4_readsKind_24 (by decide) (fun hc => ?_) (fun hc => ?_)
    · have hf := wp_t hc hf
      refine lv_iconst (v := 1) hx hb dX4_readsKind_31 (by decide) ?_
      have hw := wp_s hf
      exact JJ _ _ _ _ hw hH (lv_sub hl [0] rfl)
    · have hf := wp_f hc hf
      refine lv_iconst (v := 0) hx hb dX4_readsKind_27 (by decide) ?_
      refine lv_goto (tgt := 32) hx hb dX4_readsKind_28 (by decide) ?_
      have hw := wp_s hf
      exact JJ _ _ _ _ hw hH (lv_sub hl [0] rfl)

