def fX4_decrees (v1 : Int32) (v2 : Int32) (v3 : Int32) (xs : (Nat → Int32)) (xe : (Nat → Int32)) : Option (Int32 × (Nat → Int32) × (Nat → Int32)) :=
  Option.bind (fX4_isIn v1 0 5) fun x1 =>
  Option.bind (if x1 = 0 then
      some (-2)
    else
      Option.bind (fX4_isVerdict v2) fun x3 =>
      if x3 = 0 then
        some (-2)
      else
        Option.bind (fX4_wrongBy v3 0 9) fun x4 =>
        some x4) fun (t2 : Int32) =>
  if t2 = 0 then
    if ob (20 + v1) 53 then none else
    if ob (26 + v1) 53 then none else
    if ob (20 + v1) 53 then none else
    if ob (26 + v1) 53 then none else
    some ((10 * (xs (Int32.toNatClampNeg (20 + v1)))) + (xs (Int32.toNatClampNeg (26 + v1))), upd (upd xs (Int32.toNatClampNeg (20 + v1)) v2) (Int32.toNatClampNeg (26 + v1)) v3, xe)
  else
    Option.bind (fX4_no t2 xe) fun x5 =>
    some (x5.1, xs, x5.2)

def rmX4_decrees : Room := { frames := 2, cells := 0, slots := 0, locals := 42 }
theorem mbX4_decrees_f9 : Cond.fieldLink RX4 9 (TX4 0).1 (TX4 0).2.1 (TX4 0).2.2.1 ∈ wsX4_decrees := by decide +kernel
theorem inX4_decrees_X4 : ∀ w ∈ wsX40, w ∈ wsX4_decrees := by decide +kernel
theorem hdVX4_decrees : yX4_decrees.cls = RX4 ∧ yX4_decrees.cls ≠ "java/lang/invoke/MethodHandle" ∧ yX4_decrees.cls ≠ "java/lang/invoke/VarHandle" ∧ (parseMethodDescriptor yX4_decrees.desc).map (fun d => d.parameters.length) = some 3 := by decide +kernel
set_option maxHeartbeats 4000000 in
set_option maxRecDepth 100000 in
theorem ctX4_decrees {l : Launch} {D : va_G} {cI cJ cQ : ClassId} (ad : Nat → Nat) (xs : (Nat → Int32)) (xm : (Nat → Int32)) (xi : (Nat → Int32)) (xw : (Nat → Int32)) (xh : Int32) (xl : (Nat → Int32)) (xr : (Nat → Int32)) (xe : (Nat → Int32)) (xn : Int32) (xo : Int32) (xp : Int32) (xu : (Nat → Int32)) (xd : Int32) (v1 : Int32) (v2 : Int32) (v3 : Int32) {res : Int32 × (Nat → Int32) × (Nat → Int32)} (h : fX4_decrees v1 v2 v3 xs xe = some res) : CtI l D cI cJ cQ yX4_decrees wsX4_decrees rmX4_decrees [.ref (ad 0), .int v1, .int v2, .int v3] (wMd cI ad xs xm xi xw xh xl xr xe xn xo xp xu xd) res.1 (wMd cI ad res.2.1 xm xi xw xh xl xr res.2.2 xn xo xp xu xd) := by
  refine ctI_of .int (cc := cX4_decrees) (maxL := 6) (by decide) rfl (Nat.le_of_ble_eq_true rfl) ?_
  intro p e s m args below meth c A Q ls F hK hA RET hH hl
  obtain ⟨hx, hb, hml, hown, hts⟩ := id F
  have hl : lv_has ls 6 [(0, .ref (ad 0)), (1, .int v1), (2, .int v2), (3, .int v3)] := hl
  have hf : wpO (fX4_decrees v1 v2 v3 xs xe) (fun v => v = res) := ⟨_, h, rfl⟩
  obtain ⟨H, eH⟩ : ∃ H, H = s.heap := ⟨_, rfl⟩
  obtain ⟨locs, eL⟩ : ∃ locs : List Loc, locs = [] := ⟨_, rfl⟩
  have hH : Hs D A s.heap (wMd cI ad xs xm xi xw xh xl xr xe xn xo xp xu xd) H locs := by rw [eH, eL]; exact hH
  rw [← eL]
  suffices hgo : W p l e rmX4_decrees s m args below meth c H locs 0 0 Q (F0 m 0 ls []) by rw [eH] at hgo; exact hgo
  clear eH eL
  refine lv_iload_n hx hb dX4_decrees_0 rfl (lv_at hl 1 rfl) ?_
  refine lv_iconst (v := 0) hx hb dX4_decrees_1 (by decide) ?_
  refine lv_iconst (v := 5) hx hb dX4_decrees_2 (by decide) ?_
  obtain ⟨x1, hcl, hf⟩ := wp_b hf
  refine k_Si F hK hH hA hl.1 ⟨Nat.zero_le _, Nat.zero_le _⟩ [] [.int v1, .int 0, .int 5] [] (ctX4_isIn v1 0 5 hcl) (va_cwS 3 hts gX4_decrees_X4_isIn rfl rfl rfl hdSX4_isIn ⟨Nat.le_of_ble_eq_true rfl, Nat.le_of_ble_eq_true rfl⟩) dX4_decrees_3 rfl rfl (Nat.le_of_ble_eq_true rfl) rfl rfl (by decide) (fun H locs hH => ?_)
  have hH : Hs D A s.heap (wMd cI ad xs xm xi xw xh xl xr xe xn xo xp xu xd) H locs := hH
  refine join_ (α := Int32) (fun Φ => ∀ (t2 : Int32) (H : Heap) (locs : List Loc) (ls : Array Slot), Φ t2 → Hs D A s.heap (wMd cI ad xs xm xi xw xh xl xr xe xn xo xp xu xd) H locs → lv_has ls 6 [(0, .ref (ad 0)), (1, .int v1), (2, .int v2), (3, .int v3)] → W p l e rmX4_decrees s m args below meth c H locs 0 0 Q (F0 m 28 ls [.int t2])) (wp_bb hf) ?_ ?_
  · intro t2 H locs ls hf hH hl
    refine lv_istore (lv' := [(4, .int t2), (0, .ref (ad 0)), (1, .int v1), (2, .int v2), (3, .int v3)]) hx hb dX4_decrees_28 hl (by decide) rfl (fun ls hl => ?_)
    refine lv_iload hx hb dX4_decrees_30 (lv_at hl 0 rfl) ?_
    refine lv_if_eq (tgt := 42) hx hb dX4_decrees_32 (by decide) (fun hc => ?_) (fun hc => ?_)
    · have hf := wp_t hc hf
      refine lv_bipush (v := 10) hx hb dX4_decrees_42 (by decide) ?_
      refine lv_aload_n hx hb dX4_decrees_44 rfl (lv_at hl 1 rfl) ?_
      refine k_get (v := .ref (ad 1)) F hK hH 0 inX4_decrees_X4 0 mbX4_decrees_f9 dX4_decrees_45 rfl rfl (by decide) rfl ?_
      refine lv_bipush (v := 20) hx hb dX4_decrees_48 (by decide) ?_
      refine lv_iload_n hx hb dX4_decrees_50 rfl (lv_at hl 2 rfl) ?_
      refine lv_iadd hx hb dX4_decrees_51 ?_
      obtain ⟨hi, hf⟩ := wp_n hf
      refine k_iald (f := xs) (n := 53) F hK hH 1 dX4_decrees_52 hi rfl ?_
      refine lv_imul hx hb dX4_decrees_53 ?_
      refine lv_aload_n hx hb dX4_decrees_54 rfl (lv_at hl 1 rfl) ?_
      refine k_get (v := .ref (ad 1)) F hK hH 0 inX4_decrees_X4 0 mbX4_decrees_f9 dX4_decrees_55 rfl rfl (by decide) rfl ?_
      refine lv_bipush (v := 26) hx hb dX4_decrees_58 (by decide) ?_
      refine lv_iload_n hx hb dX4_decrees_60 rfl (lv_at hl 2 rfl) ?_
      refine lv_iadd hx hb dX4_decrees_61 ?_
      obtain ⟨hi, hf⟩ := wp_n hf
      refine k_iald (f := xs) (n := 53) F hK hH 1 dX4_decrees_62 hi rfl ?_
      refine lv_iadd hx hb dX4_decrees_63 ?_
      refine lv_istore (lv' := [(5, .int ((10 * (xs (Int32.toNatClampNeg (20 + v1)))) + (xs (Int32.toNatClampNeg (26 + v1))))), (4, .int t2), (0, .ref (ad 0)), (1, .int v1), (2, .int v2), (3, .int v3)]) hx hb dX4_decrees_64 hl (by decide) rfl (fun ls hl => ?_)
      refine lv_aload_n hx hb dX4_decrees_66 rfl (lv_at hl 2 rfl) ?_
      refine k_get (v := .ref (ad 1)) F hK hH 0 inX4_decrees_X4 0 mbX4_decrees_f9 dX4_decrees_67 rfl rfl (by decide) rfl ?_
      refine lv_bipush (v := 20) hx hb dX4_decrees_70 (by decide) ?_
      refine lv_iload_n hx hb dX4_decrees_72 rfl (lv_at hl 3 rfl) ?_
      refine lv_iadd hx hb dX4_decrees_73 ?_
      refine lv_iload_n hx hb dX4_decrees_74 rfl (lv_at hl 4 rfl) ?_
      obtain ⟨hi, hf⟩ := wp_n hf
      refine k_iast (f := xs) (n := 53) F hK hH 1 dX4_decrees_75 hi rfl (fun H locs hH => ?_)
      have hH : Hs D A s.heap (wMd cI ad (upd xs (Int32.toNatClampNeg (20 + v1)) v2) xm xi xw xh xl xr xe xn xo xp xu xd) H locs := hH
      refine lv_aload_n hx hb dX4_decrees_76 rfl (lv_at hl 2 rfl) ?_
      refine k_get (v := .ref (ad 1)) F hK hH 0 inX4_decrees_X4 0 mbX4_decrees_f9 dX4_decrees_77 rfl rfl (by decide) rfl ?_
      refine lv_bipush (v := 26) hx hb dX4_decrees_80 (by decide) ?_
      refine lv_iload_n hx hb dX4_decrees_82 rfl (lv_at hl 3 rfl) ?_
      refine lv_iadd hx hb dX4_decrees_83 ?_
      refine lv_iload_n hx hb dX4_decrees_84 rfl (lv_at hl 5 rfl) ?_
      obtain ⟨hi, hf⟩ := wp_n hf
      refine k_iast (f := upd xs (Int32.toNatClampNeg (20 + v1)) v2) (n := 53) F hK hH 1 dX4_decrees_85 hi rfl (fun H locs hH => ?_)
      have hH : Hs D A s.heap (wMd cI ad (upd (upd xs (Int32.toNatClampNeg (20 + v1)) v2) (Int32.toNatClampNeg (26 + v1)) v3) xm xi xw xh xl xr xe xn xo xp xu xd) H locs := hH
      refine lv_iload hx hb dX4_decrees_86 (lv_at hl 0 rfl) ?_
      have hrs := wp_s hf
      subst hrs
      exact RET H locs ls 88 dX4_decrees_88 rfl hH
    · have hf := wp_f hc hf
      refine lv_aload_n hx hb dX4_decrees_35 rfl (lv_at hl 1 rfl) ?_
      refine lv_iload hx hb dX4_decrees_36 (lv_at hl 0 rfl) ?_
      obtain ⟨x5, hcl, hf⟩ := wp_b hf
      refine k_Vi0 F hK hH hA hl.1 ⟨Nat.zero_le _, Nat.zero_le _⟩ [.int t2] [] (ctX4_no ad xs xm xi xw xh xl xr xe xn xo xp xu xd t2 hcl) (cwV 1 hts gX4_decrees_X4_no rfl rfl rfl hdVX4_no ⟨Nat.le_of_ble_eq_true rfl, Nat.le_of_ble_eq_true rfl⟩) dX4_decrees_38 0 rfl rfl rfl rfl rfl (Nat.le_of_ble_eq_true rfl) rfl (fun H locs hH => ?_)
      have hH : Hs D A s.heap (wMd cI ad xs xm xi xw xh xl xr x5.2 xn xo xp xu xd) H locs := hH
      refine W.eq (g2 := F0 m 41 ls [.int x5.1]) rfl ?_
      have hrs := wp_s hf
      subst hrs
      exact RET H locs ls 41 dX4_decrees_41 rfl hH
  · intro Φ JJ hf
    refine lv_if_eq (tgt := 26) hx hb dX4_decrees_6 (by decide) (fun hc => ?_) (fun hc => ?_)
    · have hf := wp_t hc hf
      refine lv_bipush (v := (-2)) hx hb dX4_decrees_26 (by decide) ?_
      have hw := wp_s hf
      exact JJ _ _ _ _ hw hH (lv_sub hl [0, 1, 2, 3] rfl)
    · have hf := wp_f hc hf
      refine lv_iload_n hx hb dX4_decrees_9 rfl (lv_at hl 2 rfl) ?_
      obtain ⟨x3, hcl, hf⟩ := wp_b hf
      refine k_Si F hK hH hA hl.1 ⟨Nat.zero_le _, Nat.zero_le _⟩ [] [.int v2] [] (ctX4_isVerdict v2 hcl) (va_cwS 1 hts gX4_decrees_X4_isVerdict rfl rfl rfl hdSX4_isVerdict ⟨Nat.le_of_ble_eq_true rfl, Nat.le_of_ble_eq_true rfl⟩) dX4_decrees_10 rfl rfl (Nat.le_of_ble_eq_true rfl) rfl rfl (by decide) (fun H locs hH => ?_)
      have hH : Hs D A s.heap (wMd cI ad xs xm xi xw xh xl xr xe xn xo xp xu xd) H locs := hH
      refine lv_if_eq (tgt := 26) hx hb dX4_decrees_13 (by decide) (fun hc => ?_) (fun hc => ?_)
      · have hf := wp_t hc hf
        refine lv_bipush (v := (-2)) hx hb dX4_decrees_26 (by decide) ?_
        have hw := wp_s hf
        exact JJ _ _ _ _ hw hH (lv_sub hl [0, 1, 2, 3] rfl)
      · have hf := wp_f hc hf
        refine lv_iload_n hx hb dX4_decrees_16 rfl (lv_at hl 3 rfl) ?_
        refine lv_iconst (v := 0) hx hb dX4_decrees_17 (by decide) ?_
        refine lv_bipush (v := 9) hx hb dX4_decrees_18 (by decide) ?_
        obtain ⟨x4, hcl, hf⟩ := wp_b hf
        refine k_Si F hK hH hA hl.1 ⟨Nat.zero_le _, Nat.zero_le _⟩ [] [.int v3, .int 0, .int 9] [] (ctX4_wrongBy v3 0 9 hcl) (va_cwS 3 hts gX4_decrees_X4_wrongBy rfl rfl rfl hdSX4_wrongBy ⟨Nat.le_of_ble_eq_true rfl, Nat.le_of_ble_eq_true rfl⟩) dX4_decrees_20 rfl rfl (Nat.le_of_ble_eq_true rfl) rfl rfl (by decide) (fun H locs hH => ?_)
        have hH : Hs D A s.heap (wMd cI ad xs xm xi xw xh xl xr xe xn xo xp xu xd) H locs := hH
        refine lv_goto (tgt := 28) hx hb dX4_decrees_23 (by decide) ?_
        have hw := wp_s hf
        exact JJ _ _ _ _ hw hH (lv_sub hl [0, 1, 2, 3] rfl)

def fX4_eyes (v1 : Int32) (xs : (Nat → Int32)) (xe : (Nat → Int32)) : Option (Int32 × (Nat → Int32) × (Nat → Int32)) :=
  Option.bind (fX4_wrongBy v1 0 16) fun x1 =>
  if x1 = 0 then
    Option.bind (fX4_sets 2 v1 xs) fun x2 =>
    some (x2.1, x2.2, xe)
  else
    Option.bind (fX4_no x1 xe) fun x3 =>
    some (x3.1, xs, x3.2)

def rmX4_eyes : Room := { frames := 1, cells := 0, slots := 0, locals := 23 }
theorem hdVX4_eyes : yX4_eyes.cls = RX4 ∧ yX4_eyes.cls ≠ "java/lang/invoke/MethodHandle" ∧ yX4_eyes.cls ≠ "java/lang/invoke/VarHandle" ∧ (parseMethodDescriptor yX4_eyes.desc).map (fun d => d.parameters.length) = some 1 := by decide +kernel
set_option maxHeartbeats 4000000 in
set_option maxRecDepth 100000 in
theorem ctX4_eyes {l : Launch} {D : va_G} {cI cJ cQ : ClassId} (ad : Nat → Nat) (xs : (Nat → Int32)) (xm : (Nat → Int32)) (xi : (Nat → Int32)) (xw : (Nat → Int32)) (xh : Int32) (xl : (Nat → Int32)) (xr : (Nat → Int32)) (xe : (Nat → Int32)) (xn : Int32) (xo : Int32) (xp : Int32) (xu : (Nat → Int32)) (xd : Int32) (v1 : Int32) {res : Int32 × (Nat → Int32) × (Nat → Int32)} (h : fX4_eyes v1 xs xe = some res) : CtI l D cI cJ cQ yX4_eyes wsX4_eyes rmX4_eyes [.ref (ad 0), .int v1] (wMd cI ad xs xm xi xw xh xl xr xe xn xo xp xu xd) res.1 (wMd cI ad res.2.1 xm xi xw xh xl xr res.2.2 xn xo xp xu xd) := by
  refine ctI_of .int (cc := cX4_eyes) (maxL := 3) (by decide) rfl (Nat.le_of_ble_eq_true rfl) ?_
  intro p e s m args below meth c A Q ls F hK hA RET hH hl
  obtain ⟨hx, hb, hml, hown, hts⟩ := id F
  have hl : lv_has ls 3 [(0, .ref (ad 0)), (1, .int v1)] := hl
  have hf : wpO (fX4_eyes v1 xs xe) (fun v => v = res) := ⟨_, h, rfl⟩
  obtain ⟨H, eH⟩ : ∃ H, H = s.heap := ⟨_, rfl⟩
  obtain ⟨locs, eL⟩ : ∃ locs : List Loc, locs = [] := ⟨_, rfl⟩
  have hH : Hs D A s.heap (wMd cI ad xs xm xi xw xh xl xr xe xn xo xp xu xd) H locs := by rw [eH, eL]; exact hH
  rw [← eL]
  suffices hgo : W p l e rmX4_eyes s m args below meth c H locs 0 0 Q (F0 m 0 ls []) by rw [eH] at hgo; exact hgo
  clear eH eL
  refine lv_iload_n hx hb dX4_eyes_0 rfl (lv_at hl 1 rfl) ?_
  refine lv_iconst (v := 0) hx hb dX4_eyes_1 (by decide) ?_
  refine lv_bipush (v := 16) hx hb dX4_eyes_2 (by decide) ?_
  obtain ⟨x1, hcl, hf⟩ := wp_b hf
  refine k_Si F hK hH hA hl.1 ⟨Nat.zero_le _, Nat.zero_le _⟩ [] [.int v1, .int 0, .int 16] [] (ctX4_wrongBy v1 0 16 hcl) (va_cwS 3 hts gX4_eyes_X4_wrongBy rfl rfl rfl hdSX4_wrongBy ⟨Nat.le_of_ble_eq_true rfl, Nat.le_of_ble_eq_true rfl⟩) dX4_eyes_4 rfl rfl (Nat.le_of_ble_eq_true rfl) rfl rfl (by decide) (fun H locs hH => ?_)
  have hH : Hs D A s.heap (wMd cI ad xs xm xi xw xh xl xr xe xn xo xp xu xd) H locs := hH
  refine lv_istore_n (lv' := [(2, .int x1), (0, .ref (ad 0)), (1, .int v1)]) hx hb dX4_eyes_7 rfl hl (by decide) rfl (fun ls hl => ?_)
  refine lv_iload_n hx hb dX4_eyes_8 rfl (lv_at hl 0 rfl) ?_
  refine lv_if_eq (tgt := 20) hx hb dX4_eyes_9 (by decide) (fun hc => ?_) (fun hc => ?_)
  · have hf := wp_t hc hf
    refine lv_aload_n hx hb dX4_eyes_20 rfl (lv_at hl 1 rfl) ?_
    refine lv_iconst (v := 2) hx hb dX4_eyes_21 (by decide) ?_
    refine lv_iload_n hx hb dX4_eyes_22 rfl (lv_at hl 2 rfl) ?_
    obtain ⟨x2, hcl, hf⟩ := wp_b hf
    refine k_Vi0 F hK hH hA hl.1 ⟨Nat.zero_le _, Nat.zero_le _⟩ [.int 2, .int v1] [] (ctX4_sets ad xs xm xi xw xh xl xr xe xn xo xp xu xd 2 v1 hcl) (cwV 2 hts gX4_eyes_X4_sets rfl rfl rfl hdVX4_sets ⟨Nat.le_of_ble_eq_true rfl, Nat.le_of_ble_eq_true rfl⟩) dX4_eyes_23 0 rfl rfl rfl rfl rfl (Nat.le_of_ble_eq_true rfl) rfl (fun H locs hH => ?_)
    have hH : Hs D A s.heap (wMd cI ad x2.2 xm xi xw xh xl xr xe xn xo xp xu xd) H locs := hH
    refine W.eq (g2 := F0 m 26 ls [.int x2.1]) rfl ?_
    have hrs := wp_s hf
    subst hrs
    exact RET H locs ls 26 dX4_eyes_26 rfl hH
  · have hf := wp_f hc hf
    refine lv_aload_n hx hb dX4_eyes_12 rfl (lv_at hl 1 rfl) ?_
    refine lv_iload_n hx hb dX4_eyes_13 rfl (lv_at hl 0 rfl) ?_
    obtain ⟨x3, hcl, hf⟩ := wp_b hf
    refine k_Vi0 F hK hH hA hl.1 ⟨Nat.zero_le _, Nat.zero_le _⟩ [.int x1] [] (ctX4_no ad xs xm xi xw xh xl xr xe xn xo xp xu xd x1 hcl) (cwV 1 hts gX4_eyes_X4_no rfl rfl rfl hdVX4_no ⟨Nat.le_of_ble_eq_true rfl, Nat.le_of_ble_eq_true rfl⟩) dX4_eyes_14 0 rfl rfl rfl rfl rfl (Nat.le_of_ble_eq_true rfl) rfl (fun H locs hH => ?_)
    have hH : Hs D A s.heap (wMd cI ad xs xm xi xw xh xl xr x3.2 xn xo xp xu xd) H locs := hH
    refine W.eq (g2 := F0 m 17 ls [.int x3.1]) rfl ?_
    refine lv_goto (tgt := 26) hx hb dX4_eyes_17 (by decide) ?_
    have hrs := wp_s hf
    subst hrs
    exact RET H locs ls 26 dX4_eyes_26 rfl hH

def fX4_turn (v1 : Int32) (v2 : Int32) (v3 : Int32) (xs : (Nat → Int32)) (xe : (Nat → Int32)) : Option (Int32 × (Nat → Int32) × (Nat → Int32)) :=
  Option.bind (fX4_isThing v1 xs) fun x1 =>
  Option.bind (if x1 = 0 then
      some (-1)
    else
      Option.bind (fX4_isIn v2 0 5) fun x3 =>
      if x3 = 0 then
        some (-2)
      else
        Option.bind (fX4_wrongBy v3 0 9) fun x4 =>
        some x4) fun (t2 : Int32) =>
  if t2 = 0 then
    Option.bind (fX4_of v1 0) fun x5 =>
    if ob x5 53 then none else
    Option.bind (fX4_of v1 1) fun x6 =>
    if ob x6 53 then none else
    Option.bind (fX4_of v1 0) fun x7 =>
    if ob x7 53 then none else
    Option.bind (fX4_of v1 1) fun x8 =>
    if ob x8 53 then none else
    some ((10 * (xs (Int32.toNatClampNeg x5))) + (xs (Int32.toNatClampNeg x6)), upd (upd xs (Int32.toNatClampNeg x7) v2) (Int32.toNatClampNeg x8) v3, xe)
  else
    Option.bind (fX4_no t2 xe) fun x9 =>
    some (x9.1, xs, x9.2)

def rmX4_turn : Room := { frames := 2, cells := 0, slots := 0, locals := 43 }
theorem mbX4_turn_f9 : Cond.fieldLink RX4 9 (TX4 0).1 (TX4 0).2.1 (TX4 0).2.2.1 ∈ wsX4_turn := by decide +kernel
theorem inX4_turn_X4 : ∀ w ∈ wsX40, w ∈ wsX4_turn := by decide +kernel
theorem hdVX4_turn : yX4_turn.cls = RX4 ∧ yX4_turn.cls ≠ "java/lang/invoke/MethodHandle" ∧ yX4_turn.cls ≠ "java/lang/invoke/VarHandle" ∧ (parseMethodDescriptor yX4_turn.desc).map (fun d => d.parameters.length) = some 3 := by decide +kernel
set_option maxHeartbeats 4000000 in
set_option maxRecDepth 100000 in
theorem ctX4_turn {l : Launch} {D : va_G} {cI cJ cQ : ClassId} (ad : Nat → Nat) (xs : (Nat → Int32)) (xm : (Nat → Int32)) (xi : (Nat → Int32)) (xw : (Nat → Int32)) (xh : Int32) (xl : (Nat → Int32)) (xr : (Nat → Int32)) (xe : (Nat → Int32)) (xn : Int32) (xo : Int32) (xp : Int32) (xu : (Nat → Int32)) (xd : Int32) (v1 : Int32) (v2 : Int32) (v3 : Int32) {res : Int32 × (Nat → Int32) × (Nat → Int32)} (h : fX4_turn v1 v2 v3 xs xe = some res) : CtI l D cI cJ cQ yX4_turn wsX4_turn rmX4_turn [.ref (ad 0), .int v1, .int v2, .int v3] (wMd cI ad xs xm xi xw xh xl xr xe xn xo xp xu xd) res.1 (wMd cI ad res.2.1 xm xi xw xh xl xr res.2.2 xn xo xp xu xd) := by
  refine ctI_of .int (cc := cX4_turn) (maxL := 6) (by decide) rfl (Nat.le_of_ble_eq_true rfl) ?_
  intro p e s m args below meth c A Q ls F hK hA RET hH hl
  obtain ⟨hx, hb, hml, hown, hts⟩ := id F
  have hl : lv_has ls 6 [(0, .ref (ad 0)), (1, .int v1), (2, .int v2), (3, .int v3)] := hl
  have hf : wpO (fX4_turn v1 v2 v3 xs xe) (fun v => v = res) := ⟨_, h, rfl⟩
  obtain ⟨H, eH⟩ : ∃ H, H = s.heap := ⟨_, rfl⟩
  obtain ⟨locs, eL⟩ : ∃ locs : List Loc, locs = [] := ⟨_, rfl⟩
  have hH : Hs D A s.heap (wMd cI ad xs xm xi xw xh xl xr xe xn xo xp xu xd) H locs := by rw [eH, eL]; exact hH
  rw [← eL]
  suffices hgo : W p l e rmX4_turn s m args below meth c H locs 0 0 Q (F0 m 0 ls []) by rw [eH] at hgo; exact hgo
  clear eH eL
  refine lv_aload_n hx hb dX4_turn_0 rfl (lv_at hl 0 rfl) ?_
  refine lv_iload_n hx hb dX4_turn_1 rfl (lv_at hl 1 rfl) ?_
  obtain ⟨x1, hcl, hf⟩ := wp_b hf
  refine k_Vi0 F hK hH hA hl.1 ⟨Nat.zero_le _, Nat.zero_le _⟩ [.int v1] [] (ctX4_isThing ad xs xm xi xw xh xl xr xe xn xo xp xu xd v1 hcl) (cwV 1 hts gX4_turn_X4_isThing rfl rfl rfl hdVX4_isThing ⟨Nat.le_of_ble_eq_true rfl, Nat.le_of_ble_eq_true rfl⟩) dX4_turn_2 0 rfl rfl rfl rfl rfl (Nat.le_of_ble_eq_true rfl) rfl (fun H locs hH => ?_)
  have hH : Hs D A s.heap (wMd cI ad xs xm xi xw xh xl xr xe xn xo xp xu xd) H locs := hH
  refine join_ (α := Int32) (fun Φ => ∀ (t2 : Int32) (H : Heap) (locs : List Loc) (ls : Array Slot), Φ t2 → Hs D A s.heap (wMd cI ad xs xm xi xw xh xl xr xe xn xo xp xu xd) H locs → lv_has ls 6 [(0, .ref (ad 0)), (1, .int v1), (2, .int v2), (3, .int v3)] → W p l e rmX4_turn s m args below meth c H locs 0 0 Q (F0 m 33 ls [.int t2])) (wp_bb hf) ?_ ?_
  · intro t2 H locs ls hf hH hl
    refine lv_istore (lv' := [(4, .int t2), (0, .ref (ad 0)), (1, .int v1), (2, .int v2), (3, .int v3)]) hx hb dX4_turn_33 hl (by decide) rfl (fun ls hl => ?_)
    refine lv_iload hx hb dX4_turn_35 (lv_at hl 0 rfl) ?_
    refine lv_if_eq (tgt := 47) hx hb dX4_turn_37 (by decide) (fun hc => ?_) (fun hc => ?_)
    · have hf := wp_t hc hf
      refine lv_bipush (v := 10) hx hb dX4_turn_47 (by decide) ?_
      refine lv_aload_n hx hb dX4_turn_49 rfl (lv_at hl 1 rfl) ?_
      refine k_get (v := .ref (ad 1)) F hK hH 0 inX4_turn_X4 0 mbX4_turn_f9 dX4_turn_50 rfl rfl (by decide) rfl ?_
      refine lv_iload_n hx hb dX4_turn_53 rfl (lv_at hl 2 rfl) ?_
      refine lv_iconst (v := 0) hx hb dX4_turn_54 (by decide) ?_
      obtain ⟨x5, hcl, hf⟩ := wp_b hf
      refine k_Si F hK hH hA hl.1 ⟨Nat.zero_le _, Nat.zero_le _⟩ [] [.int v1, .int 0] [.ref (ad 1), .int 10] (ctX4_of v1 0 hcl) (va_cwS 2 hts gX4_turn_X4_of rfl rfl rfl hdSX4_of ⟨Nat.le_of_ble_eq_true rfl, Nat.le_of_ble_eq_true rfl⟩) dX4_turn_55 rfl rfl (Nat.le_of_ble_eq_true rfl) rfl rfl (by decide) (fun H locs hH => ?_)
      have hH : Hs D A s.heap (wMd cI ad xs xm xi xw xh xl xr xe xn xo xp xu xd) H locs := hH
      obtain ⟨hi, hf⟩ := wp_n hf
      refine k_iald (f := xs) (n := 53) F hK hH 1 dX4_turn_58 hi rfl ?_
      refine lv_imul hx hb dX4_turn_59 ?_
      refine lv_aload_n hx hb dX4_turn_60 rfl (lv_at hl 1 rfl) ?_
      refine k_get (v := .ref (ad 1)) F hK hH 0 inX4_turn_X4 0 mbX4_turn_f9 dX4_turn_61 rfl rfl (by decide) rfl ?_
      refine lv_iload_n hx hb dX4_turn_64 rfl (lv_at hl 2 rfl) ?_
      refine lv_iconst (v := 1) hx hb dX4_turn_65 (by decide) ?_
      obtain ⟨x6, hcl, hf⟩ := wp_b hf
      refine k_Si F hK hH hA hl.1 ⟨Nat.zero_le _, Nat.zero_le _⟩ [] [.int v1, .int 1] [.ref (ad 1), .int (10 * (xs (Int32.toNatClampNeg x5)))] (ctX4_of v1 1 hcl) (va_cwS 2 hts gX4_turn_X4_of rfl rfl rfl hdSX4_of ⟨Nat.le_of_ble_eq_true rfl, Nat.le_of_ble_eq_true rfl⟩) dX4_turn_66 rfl rfl (Nat.le_of_ble_eq_true rfl) rfl rfl (by decide) (fun H locs hH => ?_)
      have hH : Hs D A s.heap (wMd cI ad xs xm xi xw xh xl xr xe xn xo xp xu xd) H locs := hH
      obtain ⟨hi, hf⟩ := wp_n hf
      refine k_iald (f := xs) (n := 53) F hK hH 1 dX4_turn_69 hi rfl ?_
      refine lv_iadd hx hb dX4_turn_70 ?_
      refine lv_istore (lv' := [(5, .int ((10 * (xs (Int32.toNatClampNeg x5))) + (xs (Int32.toNatClampNeg x6)))), (4, .int t2), (0, .ref (ad 0)), (1, .int v1), (2, .int v2), (3, .int v3)]) hx hb dX4_turn_71 hl (by decide) rfl (fun ls hl => ?_)
      refine lv_aload_n hx hb dX4_turn_73 rfl (lv_at hl 2 rfl) ?_
      refine k_get (v := .ref (ad 1)) F hK hH 0 inX4_turn_X4 0 mbX4_turn_f9 dX4_turn_74 rfl rfl (by decide) rfl ?_
      refine lv_iload_n hx hb dX4_turn_77 rfl (lv_at hl 3 rfl) ?_
      refine lv_iconst (v := 0) hx hb dX4_turn_78 (by decide) ?_
      obtain ⟨x7, hcl, hf⟩ := wp_b hf
      refine k_Si F hK hH hA hl.1 ⟨Nat.zero_le _, Nat.zero_le _⟩ [] [.int v1, .int 0] [.ref (ad 1)] (ctX4_of v1 0 hcl) (va_cwS 2 hts gX4_turn_X4_of rfl rfl rfl hdSX4_of ⟨Nat.le_of_ble_eq_true rfl, Nat.le_of_ble_eq_true rfl⟩) dX4_turn_79 rfl rfl (Nat.le_of_ble_eq_true rfl) rfl rfl (by decide) (fun H locs hH => ?_)
      have hH : Hs D A s.heap (wMd cI ad xs xm xi xw xh xl xr xe xn xo xp xu xd) H locs := hH
      refine lv_iload_n hx hb dX4_turn_82 rfl (lv_at hl 4 rfl) ?_
      obtain ⟨hi, hf⟩ := wp_n hf
      refine k_iast (f := xs) (n := 53) F hK hH 1 dX4_turn_83 hi rfl (fun H locs hH => ?_)
      have hH : Hs D A s.heap (wMd cI ad (upd xs (Int32.toNatClampNeg x7) v2) xm xi xw xh xl xr xe xn xo xp xu xd) H locs := hH
      refine lv_aload_n hx hb dX4_turn_84 rfl (lv_at hl 2 rfl) ?_
      refine k_get (v := .ref (ad 1)) F hK hH 0 inX4_turn_X4 0 mbX4_turn_f9 dX4_turn_85 rfl rfl (by decide) rfl ?_
      refine lv_iload_n hx hb dX4_turn_88 rfl (lv_at hl 3 rfl) ?_
      refine lv_iconst (v := 1) hx hb dX4_turn_89 (by decide) ?_
      obtain ⟨x8, hcl, hf⟩ := wp_b hf
      refine k_Si F hK hH hA hl.1 ⟨Nat.zero_le _, Nat.zero_le _⟩ [] [.int v1, .int 1] [.ref (ad 1)] (ctX4_of v1 1 hcl) (va_cwS 2 hts gX4_turn_X4_of rfl rfl rfl hdSX4_of ⟨Nat.le_of_ble_eq_true rfl, Nat.le_of_ble_eq_true rfl⟩) dX4_turn_90 rfl rfl (Nat.le_of_ble_eq_true rfl) rfl rfl (by decide) (fun H locs hH => ?_)
      have hH : Hs D A s.heap (wMd cI ad (upd xs (Int32.toNatClampNeg x7) v2) xm xi xw xh xl xr xe xn xo xp xu xd) H locs := hH
      refine lv_iload_n hx hb dX4_turn_93 rfl (lv_at hl 5 rfl) ?_
      obtain ⟨hi, hf⟩ := wp_n hf
      refine k_iast (f := upd xs (Int32.toNatClampNeg x7) v2) (n := 53) F hK hH 1 dX4_turn_94 hi rfl (fun H locs hH => ?_)
      have hH : Hs D A s.heap (wMd cI ad (upd (upd xs (Int32.toNatClampNeg x7) v2) (Int32.toNatClampNeg x8) v3) xm xi xw xh xl xr xe xn xo xp xu xd) H locs := hH
      refine lv_iload hx hb dX4_turn_95 (lv_at hl 0 rfl) ?_
      have hrs := wp_s hf
      subst hrs
      exact RET H locs ls 97 dX4_turn_97 rfl hH
    · have hf := wp_f hc hf
      refine lv_aload_n hx hb dX4_turn_40 rfl (lv_at hl 1 rfl) ?_
      refine lv_iload hx hb dX4_turn_41 (lv_at hl 0 rfl) ?_
      obtain ⟨x9, hcl, hf⟩ := wp_b hf
      refine k_Vi0 F hK hH hA hl.1 ⟨Nat.zero_le _, Nat.zero_le _⟩ [.int t2] [] (ctX4_no ad xs xm xi xw xh xl xr xe xn xo xp xu xd t2 hcl) (cwV 1 hts gX4_turn_X4_no rfl rfl rfl hdVX4_no ⟨Nat.le_of_ble_eq_true rfl, Nat.le_of_ble_eq_true rfl⟩) dX4_turn_43 0 rfl rfl rfl rfl rfl (Nat.le_of_ble_eq_true rfl) rfl (fun H locs hH => ?_)
      have hH : Hs D A s.heap (wMd cI ad xs xm xi xw xh xl xr x9.2 xn xo xp xu xd) H locs := hH
      refine W.eq (g2 := F0 m 46 ls [.int x9.1]) rfl ?_
      have hrs := wp_s hf
      subst hrs
      exact RET H locs ls 46 dX4_turn_46 rfl hH
  · intro Φ JJ hf
    refine lv_if_ne (tgt := 12) hx hb dX4_turn_5 (by decide) (fun hc => ?_) (fun hc => ?_)
    · have hf := wp_f hc hf
      refine lv_iload_n hx hb dX4_turn_12 rfl (lv_at hl 2 rfl) ?_
      refine lv_iconst (v := 0) hx hb dX4_turn_13 (by decide) ?_
      refine lv_iconst (v := 5) hx hb dX4_turn_14 (by decide) ?_
      obtain ⟨x3, hcl, hf⟩ := wp_b hf
      refine k_Si F hK hH hA hl.1 ⟨Nat.zero_le _, Nat.zero_le _⟩ [] [.int v2, .int 0, .int 5] [] (ctX4_isIn v2 0 5 hcl) (va_cwS 3 hts gX4_turn_X4_isIn rfl rfl rfl hdSX4_isIn ⟨Nat.le_of_ble_eq_true rfl, Nat.le_of_ble_eq_true rfl⟩) dX4_turn_15 rfl rfl (Nat.le_of_ble_eq_true rfl) rfl rfl (by decide) (fun H locs hH => ?_)
      have hH : Hs D A s.heap (wMd cI ad xs xm xi xw xh xl xr xe xn xo xp xu xd) H locs := hH
      refine lv_if_ne (tgt := 26) hx hb dX4_turn_18 (by decide) (fun hc => ?_) (fun hc => ?_)
      · have hf := wp_f hc hf
        refine lv_iload_n hx hb dX4_turn_26 rfl (lv_at hl 3 rfl) ?_
        refine lv_iconst (v := 0) hx hb dX4_turn_27 (by decide) ?_
        refine lv_bipush (v := 9) hx hb dX4_turn_28 (by decide) ?_
        obtain ⟨x4, hcl, hf⟩ := wp_b hf
        refine k_Si F hK hH hA hl.1 ⟨Nat.zero_le _, Nat.zero_le _⟩ [] [.int v3, .int 0, .int 9] [] (ctX4_wrongBy v3 0 9 hcl) (va_cwS 3 hts gX4_turn_X4_wrongBy rfl rfl rfl hdSX4_wrongBy ⟨Nat.le_of_ble_eq_true rfl, Nat.le_of_ble_eq_true rfl⟩) dX4_turn_30 rfl rfl (Nat.le_of_ble_eq_true rfl) rfl rfl (by decide) (fun H locs hH => ?_)
        have hH : Hs D A s.heap (wMd cI ad xs xm xi xw xh xl xr xe xn xo xp xu xd) H locs := hH
        have hw := wp_s hf
        exact JJ _ _ _ _ hw hH (lv_sub hl [0, 1, 2, 3] rfl)
      · have hf := wp_t hc hf
        refine lv_bipush (v := (-2)) hx hb dX4_turn_21 (by decide) ?_
        refine lv_goto (tgt := 33) hx hb dX4_turn_23 (by decide) ?_
        have hw := wp_s hf
        exact JJ _ _ _ _ hw hH (lv_sub hl [0, 1, 2, 3] rfl)
    · have hf := wp_t hc hf
      refine lv_iconst (v := (-1)) hx hb dX4_turn_8 (by decide) ?_
      refine lv_goto (tgt := 33) hx hb dX4_turn_9 (by decide) ?_
      have hw := wp_s hf
      exact JJ _ _ _ _ hw hH (lv_sub hl [0, 1, 2, 3] rfl)

def fX4_hours (v1 : Int32) (xs : (Nat → Int32)) (xe : (Nat → Int32)) : Option (Int32 × (Nat → Int32) × (Nat → Int32)) :=
  if (1 : Int32) ≤ v1 then
    if (60 : Int32) < v1 then
      Option.bind (fX4_no (-6) xe) fun x1 =>
      some (x1.1, xs, x1.2)
    else
      if ((xs (Int32.toNatClampNeg 1)) + v1) ≤ 999 then
        Option.bind (fX4_hoursOn v1 xs) fun x2 =>
        some (x2 (Int32.toNatClampNeg 1), x2, xe)
      else
        Option.bind (fX4_no (-6) xe) fun x3 =>
        some (x3.1, xs, x3.2)
  else
    Option.bind (fX4_no (-4) xe) fun x4 =>
    some (x4.1, xs, x4.2)

def rmX4_hours : Room := { frames := 3, cells := 0, slots := 0, locals := 65 }
theorem mbX4_hours_f9 : Cond.fieldLink RX4 9 (TX4 0).1 (TX4 0).2.1 (TX4 0).2.2.1 ∈ wsX4_hours := by decide +kernel
theorem inX4_hours_X4 : ∀ w ∈ wsX40, w ∈ wsX4_hours := by decide +kernel
theorem hdVX4_hours : yX4_hours.cls = RX4 ∧ yX4_hours.cls ≠ "java/lang/invoke/MethodHandle" ∧ yX4_hours.cls ≠ "java/lang/invoke/VarHandle" ∧ (parseMethodDescriptor yX4_hours.desc).map (fun d => d.parameters.length) = some 1 := by decide +kernel
set_option maxHeartbeats 4000000 in
set_option maxRecDepth 100000 in
theorem ctX4_hours {l : Launch} {D : va_G} {cI cJ cQ : ClassId} (ad : Nat → Nat) (xs : (Nat → Int32)) (xm : (Nat → Int32)) (xi : (Nat → Int32)) (xw : (Nat → Int32)) (xh : Int32) (xl : (Nat → Int32)) (xr : (Nat → Int32)) (xe : (Nat → Int32)) (xn : Int32) (xo : Int32) (xp : Int32) (xu : (Nat → Int32)) (xd : Int32) (v1 : Int32) {res : Int32 × (Nat → Int32) × (Nat → Int32)} (h : fX4_hours v1 xs xe = some res) : CtI l D cI cJ cQ yX4_hours wsX4_hours rmX4_hours [.ref (ad 0), .int v1] (wMd cI ad xs xm xi xw xh xl xr xe xn xo xp xu xd) res.1 (wMd cI ad res.2.1 xm xi xw xh xl xr res.2.2 xn xo xp xu xd) := by
  refine ctI_of .int (cc := cX4_hours) (maxL := 2) (by decide) rfl (Nat.le_of_ble_eq_true rfl) ?_
  intro p e s m args below meth c A Q ls F hK hA RET hH hl
  obtain ⟨hx, hb, hml, hown, hts⟩ := id F
  have hl : lv_has ls 2 [(0, .ref (ad 0)), (1, .int v1)] := hl
  have hf : wpO (fX4_hours v1 xs xe) (fun v => v = res) := ⟨_, h, rfl⟩
  obtain ⟨H, eH⟩ : ∃ H, H = s.heap := ⟨_, rfl⟩
  obtain ⟨locs, eL⟩ : ∃ locs : List Loc, locs = [] := ⟨_, rfl⟩
  have hH : Hs D A s.heap (wMd cI ad xs xm xi xw xh xl xr xe xn xo xp xu xd) H locs := by rw [eH, eL]; exact hH
  rw [← eL]
  suffices hgo : W p l e rmX4_hours s m args below meth c H locs 0 0 Q (F0 m 0 ls []) by rw [eH] at hgo; exact hgo
  clear eH eL
  refine lv_iload_n hx hb dX4_hours_0 rfl (lv_at hl 1 rfl) ?_
  refine lv_iconst (v := 1) hx hb dX4_hours_1 (by decide) ?_
  refine lv_icmp_ge (tgt := 12) hx hb dX4_hours_2 (by decide) (fun hc => ?_) (fun hc => ?_)
  · have hf := wp_t hc hf
    refine lv_iload_n hx hb dX4_hours_12 rfl (lv_at hl 1 rfl) ?_
    refine lv_bipush (v := 60) hx hb dX4_hours_13 (by decide) ?_
    refine lv_icmp_gt (tgt := 32) hx hb dX4_hours_15 (by decide) (fun hc => ?_) (fun hc => ?_)
    · have hf := wp_t hc hf
      refine lv_aload_n hx hb dX4_hours_32 rfl (lv_at hl 0 rfl) ?_
      refine lv_bipush (v := (-6)) hx hb dX4_hours_33 (by decide) ?_
      obtain ⟨x1, hcl, hf⟩ := wp_b hf
      refine k_Vi0 F hK hH hA hl.1 ⟨Nat.zero_le _, Nat.zero_le _⟩ [.int (-6)] [] (ctX4_no ad xs xm xi xw xh xl xr xe xn xo xp xu xd (-6) hcl) (cwV 1 hts gX4_hours_X4_no rfl rfl rfl hdVX4_no ⟨Nat.le_of_ble_eq_true rfl, Nat.le_of_ble_eq_true rfl⟩) dX4_hours_35 0 rfl rfl rfl rfl rfl (Nat.le_of_ble_eq_true rfl) rfl (fun H locs hH => ?_)
      have hH : Hs D A s.heap (wMd cI ad xs xm xi xw xh xl xr x1.2 xn xo xp xu xd) H locs := hH
      refine W.eq (g2 := F0 m 38 ls [.int x1.1]) rfl ?_
      have hrs := wp_s hf
      subst hrs
      exact RET H locs ls 38 dX4_hours_38 rfl hH
    · have hf := wp_f hc hf
      refine lv_aload_n hx hb dX4_hours_18 rfl (lv_at hl 0 rfl) ?_
      refine k_get (v := .ref (ad 1)) F hK hH 0 inX4_hours_X4 0 mbX4_hours_f9 dX4_hours_19 rfl rfl (by decide) rfl ?_
      refine lv_iconst (v := 1) hx hb dX4_hours_22 (by decide) ?_
      refine k_iald (f := xs) (n := 53) F hK hH 1 dX4_hours_23 (by decide) rfl ?_
      refine lv_iload_n hx hb dX4_hours_24 rfl (lv_at hl 1 rfl) ?_
      refine lv_iadd hx hb dX4_hours_25 ?_
      refine lv_sipush (v := 999) hx hb dX4_hours_26 (by decide) ?_
      refine lv_icmp_le (tgt := 39) hx hb dX4_hours_29 (by decide) (fun hc => ?_) (fun hc => ?_)
      · have hf := wp_t hc hf
        refine lv_aload_n hx hb dX4_hours_39 rfl (lv_at hl 0 rfl) ?_
        refine k_get (v := .ref (ad 1)) F hK hH 0 inX4_hours_X4 0 mbX4_hours_f9 dX4_hours_40 rfl rfl (by decide) rfl ?_
        refine lv_iload_n hx hb dX4_hours_43 rfl (lv_at hl 1 rfl) ?_
        obtain ⟨x2, hcl, hf⟩ := wp_b hf
        refine k_Sv F hK hH hA hl.1 ⟨Nat.zero_le _, Nat.zero_le _⟩ [1] [.ref (ad 1), .int v1] [] (ctX4_hoursOn (ad 1) xs v1 hcl) (va_cwS 2 hts gX4_hours_X4_hoursOn rfl rfl rfl hdSX4_hoursOn ⟨Nat.le_of_ble_eq_true rfl, Nat.le_of_ble_eq_true rfl⟩) dX4_hours_44 rfl rfl (Nat.le_of_ble_eq_true rfl) rfl rfl (by decide) (fun H locs hH => ?_)
        have hH : Hs D A s.heap (wMd cI ad x2 xm xi xw xh xl xr xe xn xo xp xu xd) H locs := hH
        refine lv_aload_n hx hb dX4_hours_47 rfl (lv_at hl 0 rfl) ?_
        refine k_get (v := .ref (ad 1)) F hK hH 0 inX4_hours_X4 0 mbX4_hours_f9 dX4_hours_48 rfl rfl (by decide) rfl ?_
        refine lv_iconst (v := 1) hx hb dX4_hours_51 (by decide) ?_
        refine k_iald (f := x2) (n := 53) F hK hH 1 dX4_hours_52 (by decide) rfl ?_
        have hrs := wp_s hf
        subst hrs
        exact RET H locs ls 53 dX4_hours_53 rfl hH
      · have hf := wp_f hc hf
        refine lv_aload_n hx hb dX4_hours_32 rfl (lv_at hl 0 rfl) ?_
        refine lv_bipush (v := (-6)) hx hb dX4_hours_33 (by decide) ?_
        obtain ⟨x3, hcl, hf⟩ := wp_b hf
        refine k_Vi0 F hK hH hA hl.1 ⟨Nat.zero_le _, Nat.zero_le _⟩ [.int (-6)] [] (ctX4_no ad xs xm xi xw xh xl xr xe xn xo xp xu xd (-6) hcl) (cwV 1 hts gX4_hours_X4_no rfl rfl rfl hdVX4_no ⟨Nat.le_of_ble_eq_true rfl, Nat.le_of_ble_eq_true rfl⟩) dX4_hours_35 0 rfl rfl rfl rfl rfl (Nat.le_of_ble_eq_true rfl) rfl (fun H locs hH => ?_)
        have hH : Hs D A s.heap (wMd cI ad xs xm xi xw xh xl xr x3.2 xn xo xp xu xd) H locs := hH
        refine W.eq (g2 := F0 m 38 ls [.int x3.1]) rfl ?_
        have hrs := wp_s hf
        subst hrs
        exact RET H locs ls 38 dX4_hours_38 rfl hH
  · have hf := wp_f hc hf
    refine lv_aload_n hx hb dX4_hours_5 rfl (lv_at hl 0 rfl) ?_
    refine lv_bipush (v := (-4)) hx hb dX4_hours_6 (by decide) ?_
    obtain ⟨x4, hcl, hf⟩ := wp_b hf
    refine k_Vi0 F hK hH hA hl.1 ⟨Nat.zero_le _, Nat.zero_le _⟩ [.int (-4)] [] (ctX4_no ad xs xm xi xw xh xl xr xe xn xo xp xu xd (-4) hcl) (cwV 1 hts gX4_hours_X4_no rfl rfl rfl hdVX4_no ⟨Nat.le_of_ble_eq_true rfl, Nat.le_of_ble_eq_true rfl⟩) dX4_hours_8 0 rfl rfl rfl rfl rfl (Nat.le_of_ble_eq_true rfl) rfl (fun H locs hH => ?_)
    have hH : Hs D A s.heap (wMd cI ad xs xm xi xw xh xl xr x4.2 xn xo xp xu xd) H locs := hH
    refine W.eq (g2 := F0 m 11 ls [.int x4.1]) rfl ?_
    have hrs := wp_s hf
    subst hrs
    exact RET H locs ls 11 dX4_hours_11 rfl hH

def bX4_farthestSeen_15 (xs : (Nat → Int32)) (x1 : Int32) : (Int32 × Int32) → Option ((Int32 × Int32) ⊕ (Int32)) := fun ((t2, t3) : Int32 × Int32) =>
  if (xs (Int32.toNatClampNeg 0)) ≤ t3 then
    some (.inr t2)
  else
    Option.bind (fX4_has x1 t3) fun x5 =>
    if x5 = 0 then
      some (.inl (t2, t3 + 1))
    else
      if t2 < 0 then
        some (.inl (t3, t3 + 1))
      else
        Option.bind (fX4_of t3 2) fun x6 =>
        if ob x6 53 then none else
        Option.bind (fX4_of t2 2) fun x7 =>
        if ob x7 53 then none else
        if (xs (Int32.toNatClampNeg x6)) ≤ (xs (Int32.toNatClampNeg x7)) then
          some (.inl (t2, t3 + 1))
        else
          some (.inl (t3, t3 + 1))

def fX4_farthestSeen (v1 : Int32) (xs : (Nat → Int32)) : Option (Int32) :=
  Option.bind (fX4_seenIn v1 xs) fun x1 =>
  Option.bind (lp (bX4_farthestSeen_15 xs x1) fu ((-9), 0)) fun (t4 : Int32) =>
  some t4

def rmX4_farthestSeen : Room := { frames := 3, cells := 0, slots := 0, locals := 66 }
theorem mbX4_farthestSeen_f9 : Cond.fieldLink RX4 9 (TX4 0).1 (TX4 0).2.1 (TX4 0).2.2.1 ∈ wsX4_farthestSeen := by decide +kernel
theorem inX4_farthestSeen_X4 : ∀ w ∈ wsX40, w ∈ wsX4_farthestSeen := by decide +kernel
theorem hdVX4_farthestSeen : yX4_farthestSeen.cls = RX4 ∧ yX4_farthestSeen.cls ≠ "java/lang/invoke/MethodHandle" ∧ yX4_farthestSeen.cls ≠ "java/lang/invoke/VarHandle" ∧ (parseMethodDescriptor yX4_farthestSeen.desc).map (fun d => d.parameters.length) = some 1 := by decide +kernel
set_option maxHeartbeats 4000000 in
set_option maxRecDepth 100000 in
theorem ctX4_farthestSeen {l : Launch} {D : va_G} {cI cJ cQ : ClassId} (ad : Nat → Nat) (xs : (Nat → Int32)) (xm : (Nat → Int32)) (xi : (Nat → Int32)) (xw : (Nat → Int32)) (xh : Int32) (xl : (Nat → Int32)) (xr : (Nat → Int32)) (xe : (Nat → Int32)) (xn : Int32) (xo : Int32) (xp : Int32) (xu : (Nat → Int32)) (xd : Int32) (v1 : Int32) {res : Int32} (h : fX4_farthestSeen v1 xs = some res) : CtI l D cI cJ cQ yX4_farthestSeen wsX4_farthestSeen rmX4_farthestSeen [.ref (ad 0), .int v1] (wMd cI ad xs xm xi xw xh xl xr xe xn xo xp xu xd) res (wMd cI ad xs xm xi xw xh xl xr xe xn xo xp xu xd) := by
  refine ctI_of .int (cc := cX4_farthestSeen) (maxL := 5) (by decide) rfl (Nat.le_of_ble_eq_true rfl) ?_
  intro p e s m args below meth c A Q ls F hK hA RET hH hl
  obtain ⟨hx, hb, hml, hown, hts⟩ := id F
  have hl : lv_has ls 5 [(0, .ref (ad 0)), (1, .int v1)] := hl
  have hf : wpO (fX4_farthestSeen v1 xs) (fun v => v = res) := ⟨_, h, rfl⟩
  obtain ⟨H, eH⟩ : ∃ H, H = s.heap := ⟨_, rfl⟩
  obtain ⟨locs, eL⟩ : ∃ locs : List Loc, locs = [] := ⟨_, rfl⟩
  have hH : Hs D A s.heap (wMd cI ad xs xm xi xw xh xl xr xe xn xo xp xu xd) H locs := by rw [eH, eL]; exact hH
  rw [← eL]
  suffices hgo : W p l e rmX4_farthestSeen s m args below meth c H locs 0 0 Q (F0 m 0 ls []) by rw [eH] at hgo; exact hgo
  clear eH eL
  refine lv_aload_n hx hb dX4_farthestSeen_0 rfl (lv_at hl 0 rfl) ?_
  refine k_get (v := .ref (ad 1)) F hK hH 0 inX4_farthestSeen_X4 0 mbX4_farthestSeen_f9 dX4_farthestSeen_1 rfl rfl (by decide) rfl ?_
  refine lv_iload_n hx hb dX4_farthestSeen_4 rfl (lv_at hl 1 rfl) ?_
  obtain ⟨x1, hcl, hf⟩ := wp_b hf
  refine k_Si F hK hH hA hl.1 ⟨Nat.zero_le _, Nat.zero_le _⟩ [1] [.ref (ad 1), .int v1] [] (ctX4_seenIn (ad 1) xs v1 hcl) (va_cwS 2 hts gX4_farthestSeen_X4_seenIn rfl rfl rfl hdSX4_seenIn ⟨Nat.le_of_ble_eq_true rfl, Nat.le_of_ble_eq_true rfl⟩) dX4_farthestSeen_5 rfl rfl (Nat.le_of_ble_eq_true rfl) rfl rfl (by decide) (fun H locs hH => ?_)
  have hH : Hs D A s.heap (wMd cI ad xs xm xi xw xh xl xr xe xn xo xp xu xd) H locs := hH
  refine lv_istore_n (lv' := [(2, .int x1), (0, .ref (ad 0)), (1, .int v1)]) hx hb dX4_farthestSeen_8 rfl hl (by decide) rfl (fun ls hl => ?_)
  refine lv_bipush (v := (-9)) hx hb dX4_farthestSeen_9 (by decide) ?_
  refine lv_istore_n (lv' := [(3, .int (-9)), (2, .int x1), (0, .ref (ad 0)), (1, .int v1)]) hx hb dX4_farthestSeen_11 rfl hl (by decide) rfl (fun ls hl => ?_)
  refine lv_iconst (v := 0) hx hb dX4_farthestSeen_12 (by decide) ?_
  refine lv_istore (lv' := [(4, .int 0), (3, .int (-9)), (2, .int x1), (0, .ref (ad 0)), (1, .int v1)]) hx hb dX4_farthestSeen_13 hl (by decide) rfl (fun ls hl => ?_)
  have LP : ∀ (Φ : (Int32) → Prop), (∀ (t4 : Int32) (H : Heap) (locs : List Loc) (ls : Array Slot), Φ (t4) → Hs D A s.heap (wMd cI ad xs xm xi xw xh xl xr xe xn xo xp xu xd) H locs → lv_has ls 5 [(3, .int t4)] → W p l e rmX4_farthestSeen s m args below meth c H locs 0 0 Q (F0 m 72 ls [])) → ∀ (n : Nat) (t2 : Int32) (t3 : Int32) (H : Heap) (locs : List Loc) (ls : Array Slot), wpO (lp (bX4_farthestSeen_15 xs x1) n (t2, t3)) Φ → Hs D A s.heap (wMd cI ad xs xm xi xw xh xl xr xe xn xo xp xu xd) H locs → lv_has ls 5 [(0, .ref (ad 0)), (2, .int x1), (3, .int t2), (4, .int t3)] → W p l e rmX4_farthestSeen s m args below meth c H locs 0 0 Q (F0 m 15 ls []) := by
    intro Φ EX n
    induction n with
    | zero =>
      intro t2 t3 H locs ls hf hH hl
      exact (wp_l0 hf).elim
    | succ n ih =>
      intro t2 t3 H locs ls hf hH hl
      have hf := wp_l hf
      refine lv_iload hx hb dX4_farthestSeen_15 (lv_at hl 3 rfl) ?_
      refine lv_aload_n hx hb dX4_farthestSeen_17 rfl (lv_at hl 0 rfl) ?_
      refine k_get (v := .ref (ad 1)) F hK hH 0 inX4_farthestSeen_X4 0 mbX4_farthestSeen_f9 dX4_farthestSeen_18 rfl rfl (by decide) rfl ?_
      refine lv_iconst (v := 0) hx hb dX4_farthestSeen_21 (by decide) ?_
      refine k_iald (f := xs) (n := 53) F hK hH 1 dX4_farthestSeen_22 (by decide) rfl ?_
      refine lv_icmp_ge (tgt := 72) hx hb dX4_farthestSeen_23 (by decide) (fun hc => ?_) (fun hc => ?_)
      · have hf := wp_t hc hf
        have hw := wp_out hf
        exact EX _ _ _ _ hw hH (lv_sub hl [2] rfl)
      · have hf := wp_f hc hf
        refine lv_iload_n hx hb dX4_farthestSeen_26 rfl (lv_at hl 1 rfl) ?_
        refine lv_iload hx hb dX4_farthestSeen_27 (lv_at hl 3 rfl) ?_
        obtain ⟨x5, hcl, hf⟩ := wp_b hf
        refine k_Si F hK hH hA hl.1 ⟨Nat.zero_le _, Nat.zero_le _⟩ [] [.int x1, .int t3] [] (ctX4_has x1 t3 hcl) (va_cwS 2 hts gX4_farthestSeen_X4_has rfl rfl rfl hdSX4_has ⟨Nat.le_of_ble_eq_true rfl, Nat.le_of_ble_eq_true rfl⟩) dX4_farthestSeen_29 rfl rfl (Nat.le_of_ble_eq_true rfl) rfl rfl (by decide) (fun H locs hH => ?_)
        have hH : Hs D A s.heap (wMd cI ad xs xm xi xw xh xl xr xe xn xo xp xu xd) H locs := hH
        refine lv_if_eq (tgt := 66) hx hb dX4_farthestSeen_32 (by decide) (fun hc => ?_) (fun hc => ?_)
        · have hf := wp_t hc hf
          refine lv_iinc (v := t3 + 1) (lv' := [(4, .int (t3 + 1)), (0, .ref (ad 0)), (2, .int x1), (3, .int t2)]) hx hb dX4_farthestSeen_66 hl (k := 3) rfl rfl (by decide) rfl (fun ls hl => ?_)
          refine lv_goto (tgt := 15) hx hb dX4_farthestSeen_69 (by decide) ?_
          have hw := wp_in hf
          exact ih _ _ _ _ _ hw hH (lv_sub hl [1, 2, 3, 0] rfl)
        · have hf := wp_f hc hf
          refine lv_iload_n hx hb dX4_farthestSeen_35 rfl (lv_at hl 2 rfl) ?_
          refine lv_if_lt (tgt := 63) hx hb dX4_farthestSeen_36 (by decide) (fun hc => ?_) (fun hc => ?_)
          · have hf := wp_t hc hf
            refine lv_iload hx hb dX4_farthestSeen_63 (lv_at hl 3 rfl) ?_
            refine lv_istore_n (lv' := [(3, .int t3), (0, .ref (ad 0)), (2, .int x1), (4, .int t3)]) hx hb dX4_farthestSeen_65 rfl hl (by decide) rfl (fun ls hl => ?_)
            refine lv_iinc (v := t3 + 1) (lv' := [(4, .int (t3 + 1)), (3, .int t3), (0, .ref (ad 0)), (2, .int x1)]) hx hb dX4_farthestSeen_66 hl (k := 3) rfl rfl (by decide) rfl (fun ls hl => ?_)
            refine lv_goto (tgt := 15) hx hb dX4_farthestSeen_69 (by decide) ?_
            have hw := wp_in hf
            exact ih _ _ _ _ _ hw hH (lv_sub hl [2, 3, 1, 0] rfl)
          · have hf := wp_f hc hf
            refine lv_aload_n hx hb dX4_farthestSeen_39 rfl (lv_at hl 0 rfl) ?_
            refine k_get (v := .ref (ad 1)) F hK hH 0 inX4_farthestSeen_X4 0 mbX4_farthestSeen_f9 dX4_farthestSeen_40 rfl rfl (by decide) rfl ?_
            refine lv_iload hx hb dX4_farthestSeen_43 (lv_at hl 3 rfl) ?_
            refine lv_iconst (v := 2) hx hb dX4_farthestSeen_45 (by decide) ?_
            obtain ⟨x6, hcl, hf⟩ := wp_b hf
            refine k_Si F hK hH hA hl.1 ⟨Nat.zero_le _, Nat.zero_le _⟩ [] [.int t3, .int 2] [.ref (ad 1)] (ctX4_of t3 2 hcl) (va_cwS 2 hts gX4_farthestSeen_X4_of rfl rfl rfl hdSX4_of ⟨Nat.le_of_ble_eq_true rfl, Nat.le_of_ble_eq_true rfl⟩) dX4_farthestSeen_46 rfl rfl (Nat.le_of_ble_eq_true rfl) rfl rfl (by decide) (fun H locs hH => ?_)
            have hH : Hs D A s.heap (wMd cI ad xs xm xi xw xh xl xr xe xn xo xp xu xd) H locs := hH
            obtain ⟨hi, hf⟩ := wp_n hf
            refine k_iald (f := xs) (n := 53) F hK hH 1 dX4_farthestSeen_49 hi rfl ?_
            refine lv_aload_n hx hb dX4_farthestSeen_50 rfl (lv_at hl 0 rfl) ?_
            refine k_get (v := .ref (ad 1)) F hK hH 0 inX4_farthestSeen_X4 0 mbX4_farthestSeen_f9 dX4_farthestSeen_51 rfl rfl (by decide) rfl ?_
            refine lv_iload_n hx hb dX4_farthestSeen_54 rfl (lv_at hl 2 rfl) ?_
            refine lv_iconst (v := 2) hx hb dX4_farthestSeen_55 (by decide) ?_
            obtain ⟨x7, hcl, hf⟩ := wp_b hf
            refine k_Si F hK hH hA hl.1 ⟨Nat.zero_le _, Nat.zero_le _⟩ [] [.int t2, .int 2] [.ref (ad 1), .int (xs (Int32.toNatClampNeg x6))] (ctX4_of t2 2 hcl) (va_cwS 2 hts gX4_farthestSeen_X4_of rfl rfl rfl hdSX4_of ⟨Nat.le_of_ble_eq_true rfl, Nat.le_of_ble_eq_true rfl⟩) dX4_farthestSeen_56 rfl rfl (Nat.le_of_ble_eq_true rfl) rfl rfl (by decide) (fun H locs hH => ?_)
            have hH : Hs D A s.heap (wMd cI ad xs xm xi xw xh xl xr xe xn xo xp xu xd) H locs := hH
            obtain ⟨hi, hf⟩ := wp_n hf
            refine k_iald (f := xs) (n := 53) F hK hH 1 dX4_farthestSeen_59 hi rfl ?_
            refine lv_icmp_le (tgt := 66) hx hb dX4_farthestSeen_60 (by decide) (fun hc => ?_) (fun hc => ?_)
            · have hf := wp_t hc hf
              refine lv_iinc (v := t3 + 1) (lv' := [(4, .int (t3 + 1)), (0, .ref (ad 0)), (2, .int x1), (3, .int t2)]) hx hb dX4_farthestSeen_66 hl (k := 3) rfl rfl (by decide) rfl (fun ls hl => ?_)
              refine lv_goto (tgt := 15) hx hb dX4_farthestSeen_69 (by decide) ?_
              have hw := wp_in hf
              exact ih _ _ _ _ _ hw hH (lv_sub hl [1, 2, 3, 0] rfl)
            · have hf := wp_f hc hf
              refine lv_iload hx hb dX4_farthestSeen_63 (lv_at hl 3 rfl) ?_
              refine lv_istore_n (lv' := [(3, .int t3), (0, .ref (ad 0)), (2, .int x1), (4, .int t3)]) hx hb dX4_farthestSeen_65 rfl hl (by decide) rfl (fun ls hl => ?_)
              refine lv_iinc (v := t3 + 1) (lv' := [(4, .int (t3 + 1)), (3, .int t3), (0, .ref (ad 0)), (2, .int x1)]) hx hb dX4_farthestSeen_66 hl (k := 3) rfl rfl (by decide) rfl (fun ls hl => ?_)
              refine lv_goto (tgt := 15) hx hb dX4_farthestSeen_69 (by decide) ?_
              have hw := wp_in hf
              exact ih _ _ _ _ _ hw hH (lv_sub hl [2, 3, 1, 0] rfl)
  refine LP _ (fun t4 H locs ls hf hH hl => ?_) fu _ _ _ _ _ (wp_bb hf) hH (lv_sub hl [3, 2, 1, 0] rfl)
  refine lv_iload_n hx hb dX4_farthestSeen_72 rfl (lv_at hl 0 rfl) ?_
  have hrs := wp_s hf
  subst hrs
  exact RET H locs ls 73 dX4_farthestSeen_73 rfl hH

def bX4_blind_4 (v1 : Int32) (xs : (Nat → Int32)) : (Int32 × Int32) → Option ((Int32 × Int32) ⊕ (Int32)) := fun ((t1, t2) : Int32 × Int32) =>
  if (16 : Int32) ≤ t2 then
    some (.inr t1)
  else
    if ob (4 + t2) 53 then none else
    Option.bind (fX4_isClear v1 t2 ((xs (Int32.toNatClampNeg (4 + t2))) + 1) xs) fun x4 =>
    Option.bind (if x4 = 0 then
        some ((1 : Int32) <<< (t2 &&& 31))
      else
        some 0) fun (t5 : Int32) =>
    some (.inl (t1 ||| t5, t2 + 1))

def fX4_blind (v1 : Int32) (xs : (Nat → Int32)) : Option (Int32) :=
  Option.bind (lp (bX4_blind_4 v1 xs) fu (0, 0)) fun (t3 : Int32) =>
  some t3

def rmX4_blind : Room := { frames := 1, cells := 0, slots := 0, locals := 24 }
theorem mbX4_blind_f9 : Cond.fieldLink RX4 9 (TX4 0).1 (TX4 0).2.1 (TX4 0).2.2.1 ∈ wsX4_blind := by decide +kernel
theorem inX4_blind_X4 : ∀ w ∈ wsX40, w ∈ wsX4_blind := by decide +kernel
theorem hdVX4_blind : yX4_blind.cls = RX4 ∧ yX4_blind.cls ≠ "java/lang/invoke/MethodHandle" ∧ yX4_blind.cls ≠ "java/lang/invoke/VarHandle" ∧ (parseMethodDescriptor yX4_blind.desc).map (fun d => d.parameters.length) = some 1 := by decide +kernel
set_option maxHeartbeats 4000000 in
set_option maxRecDepth 100000 in
theorem ctX4_blind {l : Launch} {D : va_G} {cI cJ cQ : ClassId} (ad : Nat → Nat) (xs : (Nat → Int32)) (xm : (Nat → Int32)) (xi : (Nat → Int32)) (xw : (Nat → Int32)) (xh : Int32) (xl : (Nat → Int32)) (xr : (Nat → Int32)) (xe : (Nat → Int32)) (xn : Int32) (xo : Int32) (xp : Int32) (xu : (Nat → Int32)) (xd : Int32) (v1 : Int32) {res : Int32} (h : fX4_blind v1 xs = some res) : CtI l D cI cJ cQ yX4_blind wsX4_blind rmX4_blind [.ref (ad 0), .int v1] (wMd cI ad xs xm xi xw xh xl xr xe xn xo xp xu xd) res (wMd cI ad xs xm xi xw xh xl xr xe xn xo xp xu xd) := by
  refine ctI_of .int (cc := cX4_blind) (maxL := 4) (by decide) rfl (Nat.le_of_ble_eq_true rfl) ?_
  intro p e s m args below meth c A Q ls F hK hA RET hH hl
  obtain ⟨hx, hb, hml, hown, hts⟩ := id F
  have hl : lv_has ls 4 [(0, .ref (ad 0)), (1, .int v1)] := hl
  have hf : wpO (fX4_blind v1 xs) (fun v => v = res) := ⟨_, h, rfl⟩
  obtain ⟨H, eH⟩ : ∃ H, H = s.heap := ⟨_, rfl⟩
  obtain ⟨locs, eL⟩ : ∃ locs : List Loc, locs = [] := ⟨_, rfl⟩
  have hH : Hs D A s.heap (wMd cI ad xs xm xi xw xh xl xr xe xn xo xp xu xd) H locs := by rw [eH, eL]; exact hH
  rw [← eL]
  suffices hgo : W p l e rmX4_blind s m args below meth c H locs 0 0 Q (F0 m 0 ls []) by rw [eH] at hgo; exact hgo
  clear eH eL
  refine lv_iconst (v := 0) hx hb dX4_blind_0 (by decide) ?_
  refine lv_istore_n (lv' := [(2, .int 0), (0, .ref (ad 0)), (1, .int v1)]) hx hb dX4_blind_1 rfl hl (by decide) rfl (fun ls hl => ?_)
  refine lv_iconst (v := 0) hx hb dX4_blind_2 (by decide) ?_
  refine lv_istore_n (lv' := [(3, .int 0), (2, .int 0), (0, .ref (ad 0)), (1, .int v1)]) hx hb dX4_blind_3 rfl hl (by decide) rfl (fun ls hl => ?_)
  have LP : ∀ (Φ : (Int32) → Prop), (∀ (t3 : Int32) (H : Heap) (locs : List Loc) (ls : Array Slot), Φ (t3) → Hs D A s.heap (wMd cI ad xs xm xi xw xh xl xr xe xn xo xp xu xd) H locs → lv_has ls 4 [(2, .int t3)] → W p l e rmX4_blind s m args below meth c H locs 0 0 Q (F0 m 48 ls [])) → ∀ (n : Nat) (t1 : Int32) (t2 : Int32) (H : Heap) (locs : List Loc) (ls : Array Slot), wpO (lp (bX4_blind_4 v1 xs) n (t1, t2)) Φ → Hs D A s.heap (wMd cI ad xs xm xi xw xh xl xr xe xn xo xp xu xd) H locs → lv_has ls 4 [(0, .ref (ad 0)), (1, .int v1), (2, .int t1), (3, .int t2)] → W p l e rmX4_blind s m args below meth c H locs 0 0 Q (F0 m 4 ls []) := by
    intro Φ EX n
    induction n with
    | zero =>
      intro t1 t2 H locs ls hf hH hl
      exact (wp_l0 hf).elim
    | succ n ih =>
      intro t1 t2 H locs ls hf hH hl
      have hf := wp_l hf
      refine lv_iload_n hx hb dX4_blind_4 rfl (lv_at hl 3 rfl) ?_
      refine lv_bipush (v := 16) hx hb dX4_blind_5 (by decide) ?_
      refine lv_icmp_ge (tgt := 48) hx hb dX4_blind_7 (by decide) (fun hc => ?_) (fun hc => ?_)
      · have hf := wp_t hc hf
        have hw := wp_out hf
        exact EX _ _ _ _ hw hH (lv_sub hl [2] rfl)
      · have hf := wp_f hc hf
        refine lv_iload_n hx hb dX4_blind_10 rfl (lv_at hl 2 rfl) ?_
        refine lv_aload_n hx hb dX4_blind_11 rfl (lv_at hl 0 rfl) ?_
        refine k_get (v := .ref (ad 1)) F hK hH 0 inX4_blind_X4 0 mbX4_blind_f9 dX4_blind_12 rfl rfl (by decide) rfl ?_
        refine lv_iload_n hx hb dX4_blind_15 rfl (lv_at hl 1 rfl) ?_
        refine lv_iload_n hx hb dX4_blind_16 rfl (lv_at hl 3 rfl) ?_
        refine lv_aload_n hx hb dX4_blind_17 rfl (lv_at hl 0 rfl) ?_
        refine k_get (v := .ref (ad 1)) F hK hH 0 inX4_blind_X4 0 mbX4_blind_f9 dX4_blind_18 rfl rfl (by decide) rfl ?_
        refine lv_iconst (v := 4) hx hb dX4_blind_21 (by decide) ?_
        refine lv_iload_n hx hb dX4_blind_22 rfl (lv_at hl 3 rfl) ?_
        refine lv_iadd hx hb dX4_blind_23 ?_
        obtain ⟨hi, hf⟩ := wp_n hf
        refine k_iald (f := xs) (n := 53) F hK hH 1 dX4_blind_24 hi rfl ?_
        refine lv_iconst (v := 1) hx hb dX4_blind_25 (by decide) ?_
        refine lv_iadd hx hb dX4_blind_26 ?_
        obtain ⟨x4, hcl, hf⟩ := wp_b hf
        refine k_Si F hK hH hA hl.1 ⟨Nat.zero_le _, Nat.zero_le _⟩ [1] [.ref (ad 1), .int v1, .int t2, .int ((xs (Int32.toNatClampNeg (4 + t2))) + 1)] [.int t1] (ctX4_isClear (ad 1) xs v1 t2 ((xs (Int32.toNatClampNeg (4 + t2))) + 1) hcl) (va_cwS 4 hts gX4_blind_X4_isClear rfl rfl rfl hdSX4_isClear ⟨Nat.le_of_ble_eq_true rfl, Nat.le_of_ble_eq_true rfl⟩) dX4_blind_27 rfl rfl (Nat.le_of_ble_eq_true rfl) rfl rfl (by decide) (fun H locs hH => ?_)
        have hH : Hs D A s.heap (wMd cI ad xs xm xi xw xh xl xr xe xn xo xp xu xd) H locs := hH
        refine join_ (α := Int32) (fun Φ => ∀ (t5 : Int32) (H : Heap) (locs : List Loc) (ls : Array Slot), Φ t5 → Hs D A s.heap (wMd cI ad xs xm xi xw xh xl xr xe xn xo xp xu xd) H locs → lv_has ls 4 [(0, .ref (ad 0)), (1, .int v1), (3, .int t2)] → W p l e rmX4_blind s m args below meth c H locs 0 0 Q (F0 m 40 ls [.int t5, .int t1])) (wp_bb hf) ?_ ?_
        · intro t5 H locs ls hf hH hl
          refine lv_ior hx hb dX4_blind_40 ?_
          refine lv_istore_n (lv' := [(2, .int (t1 ||| t5)), (0, .ref (ad 0)), (1, .int v1), (3, .int t2)]) hx hb dX4_blind_41 rfl hl (by decide) rfl (fun ls hl => ?_)
          refine lv_iinc (v := t2 + 1) (lv' := [(3, .int (t2 + 1)), (2, .int (t1 ||| t5)), (0, .ref (ad 0)), (1, .int v1)]) hx hb dX4_blind_42 hl (k := 3) rfl rfl (by decide) rfl (fun ls hl => ?_)
          refine lv_goto (tgt := 4) hx hb dX4_blind_45 (by decide) ?_
          have hw := wp_in hf
          exact ih _ _ _ _ _ hw hH (lv_sub hl [2, 3, 1, 0] rfl)
        · intro Φ JJ hf
          refine lv_if_eq (tgt := 37) hx hb dX4_blind_30 (by decide) (fun hc => ?_) (fun hc => ?_)
          · have hf := wp_t hc hf
            refine lv_iconst (v := 1) hx hb dX4_blind_37 (by decide) ?_
            refine lv_iload_n hx hb dX4_blind_38 rfl (lv_at hl 3 rfl) ?_
            refine lv_ishl hx hb dX4_blind_39 ?_
            have hw := wp_s hf
            exact JJ _ _ _ _ hw hH (lv_sub hl [0, 1, 3] rfl)
          · have hf := wp_f hc hf
            refine lv_iconst (v := 0) hx hb dX4_blind_33 (by decide) ?_
            refine lv_goto (tgt := 40) hx hb dX4_blind_34 (by decide) ?_
            have hw := wp_s hf
            exact JJ _ _ _ _ hw hH (lv_sub hl [0, 1, 3] rfl)
  refine LP _ (fun t3 H locs ls hf hH hl => ?_) fu _ _ _ _ _ (wp_bb hf) hH (lv_sub hl [2, 3, 1, 0] rfl)
  refine lv_iload_n hx hb dX4_blind_48 rfl (lv_at hl 0 rfl) ?_
  have hrs := wp_s hf
  subst hrs
  exact RET H locs ls 49 dX4_blind_49 rfl hH

