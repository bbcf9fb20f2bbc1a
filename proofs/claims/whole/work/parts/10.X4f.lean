def fX4_thing (v1 : Int32) (v2 : Int32) (xs : (Nat → Int32)) (xe : (Nat → Int32)) : Option (Int32 × (Nat → Int32)) :=
  Option.bind (fX4_isThing v1 xs) fun x1 =>
  if x1 = 0 then
    Option.bind (fX4_no (-1) xe) fun x10 =>
    some (x10.1, x10.2)
  else
    if v2 = 0 then
      Option.bind (fX4_of v1 v2) fun x2 =>
      if ob x2 53 then none else
      some (xs (Int32.toNatClampNeg x2), xe)
    else
      if v2 = 1 then
        Option.bind (fX4_of v1 v2) fun x3 =>
        if ob x3 53 then none else
        some (xs (Int32.toNatClampNeg x3), xe)
      else
        if v2 = 2 then
          Option.bind (fX4_of v1 v2) fun x4 =>
          if ob x4 53 then none else
          some (xs (Int32.toNatClampNeg x4), xe)
        else
          if v2 = 3 then
            some (((xs (Int32.toNatClampNeg 3)) >>> (v1 &&& 31)) &&& 1, xe)
          else
            if v2 = 4 then
              Option.bind (fX4_top v1 xs) fun x5 =>
              some (x5, xe)
            else
              if v2 = 5 then
                Option.bind (fX4_of v1 0) fun x6 =>
                if ob x6 53 then none else
                Option.bind (fX4_of v1 1) fun x7 =>
                if ob x7 53 then none else
                Option.bind (fX4_goesBy (xs (Int32.toNatClampNeg x6)) (xs (Int32.toNatClampNeg x7)) ((xs (Int32.toNatClampNeg 1)) + 1)) fun x8 =>
                some (x8, xe)
              else
                Option.bind (fX4_no (-2) xe) fun x9 =>
                some (x9.1, x9.2)

def rmX4_thing : Room := { frames := 2, cells := 0, slots := 0, locals := 43 }
theorem mbX4_thing_f9 : Cond.fieldLink RX4 9 (TX4 0).1 (TX4 0).2.1 (TX4 0).2.2.1 ∈ wsX4_thing := by decide +kernel
theorem inX4_thing_X4 : ∀ w ∈ wsX40, w ∈ wsX4_thing := by decide +kernel
theorem hdVX4_thing : yX4_thing.cls = RX4 ∧ yX4_thing.cls ≠ "java/lang/invoke/MethodHandle" ∧ yX4_thing.cls ≠ "java/lang/invoke/VarHandle" ∧ (parseMethodDescriptor yX4_thing.desc).map (fun d => d.parameters.length) = some 2 := by decide +kernel
set_option maxHeartbeats 4000000 in
set_option maxRecDepth 100000 in
theorem ctX4_thing {l : Launch} {D : va_G} {cI cJ cQ : ClassId} (ad : Nat → Nat) (xs : (Nat → Int32)) (xm : (Nat → Int32)) (xi : (Nat → Int32)) (xw : (Nat → Int32)) (xh : Int32) (xl : (Nat → Int32)) (xr : (Nat → Int32)) (xe : (Nat → Int32)) (xn : Int32) (xo : Int32) (xp : Int32) (xu : (Nat → Int32)) (xd : Int32) (v1 : Int32) (v2 : Int32) {res : Int32 × (Nat → Int32)} (h : fX4_thing v1 v2 xs xe = some res) : CtI l D cI cJ cQ yX4_thing wsX4_thing rmX4_thing [.ref (ad 0), .int v1, .int v2] (wMd cI ad xs xm xi xw xh xl xr xe xn xo xp xu xd) res.1 (wMd cI ad xs xm xi xw xh xl xr res.2 xn xo xp xu xd) := by
  refine ctI_of .int (cc := cX4_thing) (maxL := 3) (by decide) rfl (Nat.le_of_ble_eq_true rfl) ?_
  intro p e s m args below meth c A Q ls F hK hA RET hH hl
  obtain ⟨hx, hb, hml, hown, hts⟩ := id F
  have hl : lv_has ls 3 [(0, .ref (ad 0)), (1, .int v1), (2, .int v2)] := hl
  have hf : wpO (fX4_thing v1 v2 xs xe) (fun v => v = res) := ⟨_, h, rfl⟩
  obtain ⟨H, eH⟩ : ∃ H, H = s.heap := ⟨_, rfl⟩
  obtain ⟨locs, eL⟩ : ∃ locs : List Loc, locs = [] := ⟨_, rfl⟩
  have hH : Hs D A s.heap (wMd cI ad xs xm xi xw xh xl xr xe xn xo xp xu xd) H locs := by rw [eH, eL]; exact hH
  rw [← eL]
  suffices hgo : W p l e rmX4_thing s m args below meth c H locs 0 0 Q (F0 m 0 ls []) by rw [eH] at hgo; exact hgo
  clear eH eL
  refine lv_aload_n hx hb dX4_thing_0 rfl (lv_at hl 0 rfl) ?_
  refine lv_iload_n hx hb dX4_thing_1 rfl (lv_at hl 1 rfl) ?_
  obtain ⟨x1, hcl, hf⟩ := wp_b hf
  refine k_Vi0 F hK hH hA hl.1 ⟨Nat.zero_le _, Nat.zero_le _⟩ [.int v1] [] (ctX4_isThing ad xs xm xi xw xh xl xr xe xn xo xp xu xd v1 hcl) (cwV 1 hts gX4_thing_X4_isThing rfl rfl rfl hdVX4_isThing ⟨Nat.le_of_ble_eq_true rfl, Nat.le_of_ble_eq_true rfl⟩) dX4_thing_2 0 rfl rfl rfl rfl rfl (Nat.le_of_ble_eq_true rfl) rfl (fun H locs hH => ?_)
  have hH : Hs D A s.heap (wMd cI ad xs xm xi xw xh xl xr xe xn xo xp xu xd) H locs := hH
  refine lv_if_ne (tgt := 14) hx hb dX4_thing_5 (by decide) (fun hc => ?_) (fun hc => ?_)
  · have hf := wp_f hc hf
    refine lv_iload_n hx hb dX4_thing_14 rfl (lv_at hl 2 rfl) ?_
    by_cases hc0 : v2 = 0
    · have hf := wp_t hc0 hf
      refine lv_tableIn (tgt := 52) hx hb dX4_thing_15 (by rw [hc0]; decide) (by rw [hc0]; decide) (by rw [hc0]; try rfl) (by decide) ?_
      refine lv_aload_n hx hb dX4_thing_52 rfl (lv_at hl 0 rfl) ?_
      refine k_get (v := .ref (ad 1)) F hK hH 0 inX4_thing_X4 0 mbX4_thing_f9 dX4_thing_53 rfl rfl (by decide) rfl ?_
      refine lv_iload_n hx hb dX4_thing_56 rfl (lv_at hl 1 rfl) ?_
      refine lv_iload_n hx hb dX4_thing_57 rfl (lv_at hl 2 rfl) ?_
      obtain ⟨x2, hcl, hf⟩ := wp_b hf
      refine k_Si F hK hH hA hl.1 ⟨Nat.zero_le _, Nat.zero_le _⟩ [] [.int v1, .int v2] [.ref (ad 1)] (ctX4_of v1 v2 hcl) (va_cwS 2 hts gX4_thing_X4_of rfl rfl rfl hdSX4_of ⟨Nat.le_of_ble_eq_true rfl, Nat.le_of_ble_eq_true rfl⟩) dX4_thing_58 rfl rfl (Nat.le_of_ble_eq_true rfl) rfl rfl (by decide) (fun H locs hH => ?_)
      have hH : Hs D A s.heap (wMd cI ad xs xm xi xw xh xl xr xe xn xo xp xu xd) H locs := hH
      obtain ⟨hi, hf⟩ := wp_n hf
      refine k_iald (f := xs) (n := 53) F hK hH 1 dX4_thing_61 hi rfl ?_
      have hrs := wp_s hf
      subst hrs
      exact RET H locs ls 62 dX4_thing_62 rfl hH
    · have hf := wp_f hc0 hf
      by_cases hc1 : v2 = 1
      · have hf := wp_t hc1 hf
        refine lv_tableIn (tgt := 52) hx hb dX4_thing_15 (by rw [hc1]; decide) (by rw [hc1]; decide) (by rw [hc1]; try rfl) (by decide) ?_
        refine lv_aload_n hx hb dX4_thing_52 rfl (lv_at hl 0 rfl) ?_
        refine k_get (v := .ref (ad 1)) F hK hH 0 inX4_thing_X4 0 mbX4_thing_f9 dX4_thing_53 rfl rfl (by decide) rfl ?_
        refine lv_iload_n hx hb dX4_thing_56 rfl (lv_at hl 1 rfl) ?_
        refine lv_iload_n hx hb dX4_thing_57 rfl (lv_at hl 2 rfl) ?_
        obtain ⟨x3, hcl, hf⟩ := wp_b hf
        refine k_Si F hK hH hA hl.1 ⟨Nat.zero_le _, Nat.zero_le _⟩ [] [.int v1, .int v2] [.ref (ad 1)] (ctX4_of v1 v2 hcl) (va_cwS 2 hts gX4_thing_X4_of rfl rfl rfl hdSX4_of ⟨Nat.le_of_ble_eq_true rfl, Nat.le_of_ble_eq_true rfl⟩) dX4_thing_58 rfl rfl (Nat.le_of_ble_eq_true rfl) rfl rfl (by decide) (fun H locs hH => ?_)
        have hH : Hs D A s.heap (wMd cI ad xs xm xi xw xh xl xr xe xn xo xp xu xd) H locs := hH
        obtain ⟨hi, hf⟩ := wp_n hf
        refine k_iald (f := xs) (n := 53) F hK hH 1 dX4_thing_61 hi rfl ?_
        have hrs := wp_s hf
        subst hrs
        exact RET H locs ls 62 dX4_thing_62 rfl hH
      · have hf := wp_f hc1 hf
        by_cases hc2 : v2 = 2
        · have hf := wp_t hc2 hf
          refine lv_tableIn (tgt := 52) hx hb dX4_thing_15 (by rw [hc2]; decide) (by rw [hc2]; decide) (by rw [hc2]; try rfl) (by decide) ?_
          refine lv_aload_n hx hb dX4_thing_52 rfl (lv_at hl 0 rfl) ?_
          refine k_get (v := .ref (ad 1)) F hK hH 0 inX4_thing_X4 0 mbX4_thing_f9 dX4_thing_53 rfl rfl (by decide) rfl ?_
          refine lv_iload_n hx hb dX4_thing_56 rfl (lv_at hl 1 rfl) ?_
          refine lv_iload_n hx hb dX4_thing_57 rfl (lv_at hl 2 rfl) ?_
          obtain ⟨x4, hcl, hf⟩ := wp_b hf
          refine k_Si F hK hH hA hl.1 ⟨Nat.zero_le _, Nat.zero_le _⟩ [] [.int v1, .int v2] [.ref (ad 1)] (ctX4_of v1 v2 hcl) (va_cwS 2 hts gX4_thing_X4_of rfl rfl rfl hdSX4_of ⟨Nat.le_of_ble_eq_true rfl, Nat.le_of_ble_eq_true rfl⟩) dX4_thing_58 rfl rfl (Nat.le_of_ble_eq_true rfl) rfl rfl (by decide) (fun H locs hH => ?_)
          have hH : Hs D A s.heap (wMd cI ad xs xm xi xw xh xl xr xe xn xo xp xu xd) H locs := hH
          obtain ⟨hi, hf⟩ := wp_n hf
          refine k_iald (f := xs) (n := 53) F hK hH 1 dX4_thing_61 hi rfl ?_
          have hrs := wp_s hf
          subst hrs
          exact RET H locs ls 62 dX4_thing_62 rfl hH
        · have hf := wp_f hc2 hf
          by_cases hc3 : v2 = 3
          · have hf := wp_t hc3 hf
            refine lv_tableIn (tgt := 63) hx hb dX4_thing_15 (by rw [hc3]; decide) (by rw [hc3]; decide) (by rw [hc3]; try rfl) (by decide) ?_
            refine lv_aload_n hx hb dX4_thing_63 rfl (lv_at hl 0 rfl) ?_
            refine k_get (v := .ref (ad 1)) F hK hH 0 inX4_thing_X4 0 mbX4_thing_f9 dX4_thing_64 rfl rfl (by decide) rfl ?_
            refine lv_iconst (v := 3) hx hb dX4_thing_67 (by decide) ?_
            refine k_iald (f := xs) (n := 53) F hK hH 1 dX4_thing_68 (by decide) rfl ?_
            refine lv_iload_n hx hb dX4_thing_69 rfl (lv_at hl 1 rfl) ?_
            refine lv_ishr hx hb dX4_thing_70 ?_
            refine lv_iconst (v := 1) hx hb dX4_thing_71 (by decide) ?_
            refine lv_iand hx hb dX4_thing_72 ?_
            have hrs := wp_s hf
            subst hrs
            exact RET H locs ls 73 dX4_thing_73 rfl hH
          · have hf := wp_f hc3 hf
            by_cases hc4 : v2 = 4
            · have hf := wp_t hc4 hf
              refine lv_tableIn (tgt := 74) hx hb dX4_thing_15 (by rw [hc4]; decide) (by rw [hc4]; decide) (by rw [hc4]; try rfl) (by decide) ?_
              refine lv_aload_n hx hb dX4_thing_74 rfl (lv_at hl 0 rfl) ?_
              refine k_get (v := .ref (ad 1)) F hK hH 0 inX4_thing_X4 0 mbX4_thing_f9 dX4_thing_75 rfl rfl (by decide) rfl ?_
              refine lv_iload_n hx hb dX4_thing_78 rfl (lv_at hl 1 rfl) ?_
              obtain ⟨x5, hcl, hf⟩ := wp_b hf
              refine k_Si F hK hH hA hl.1 ⟨Nat.zero_le _, Nat.zero_le _⟩ [1] [.ref (ad 1), .int v1] [] (ctX4_top (ad 1) xs v1 hcl) (va_cwS 2 hts gX4_thing_X4_top rfl rfl rfl hdSX4_top ⟨Nat.le_of_ble_eq_true rfl, Nat.le_of_ble_eq_true rfl⟩) dX4_thing_79 rfl rfl (Nat.le_of_ble_eq_true rfl) rfl rfl (by decide) (fun H locs hH => ?_)
              have hH : Hs D A s.heap (wMd cI ad xs xm xi xw xh xl xr xe xn xo xp xu xd) H locs := hH
              have hrs := wp_s hf
              subst hrs
              exact RET H locs ls 82 dX4_thing_82 rfl hH
            · have hf := wp_f hc4 hf
              by_cases hc5 : v2 = 5
              · have hf := wp_t hc5 hf
                refine lv_tableIn (tgt := 83) hx hb dX4_thing_15 (by rw [hc5]; decide) (by rw [hc5]; decide) (by rw [hc5]; try rfl) (by decide) ?_
                refine lv_aload_n hx hb dX4_thing_83 rfl (lv_at hl 0 rfl) ?_
                refine k_get (v := .ref (ad 1)) F hK hH 0 inX4_thing_X4 0 mbX4_thing_f9 dX4_thing_84 rfl rfl (by decide) rfl ?_
                refine lv_iload_n hx hb dX4_thing_87 rfl (lv_at hl 1 rfl) ?_
                refine lv_iconst (v := 0) hx hb dX4_thing_88 (by decide) ?_
                obtain ⟨x6, hcl, hf⟩ := wp_b hf
                refine k_Si F hK hH hA hl.1 ⟨Nat.zero_le _, Nat.zero_le _⟩ [] [.int v1, .int 0] [.ref (ad 1)] (ctX4_of v1 0 hcl) (va_cwS 2 hts gX4_thing_X4_of rfl rfl rfl hdSX4_of ⟨Nat.le_of_ble_eq_true rfl, Nat.le_of_ble_eq_true rfl⟩) dX4_thing_89 rfl rfl (Nat.le_of_ble_eq_true rfl) rfl rfl (by decide) (fun H locs hH => ?_)
                have hH : Hs D A s.heap (wMd cI ad xs xm xi xw xh xl xr xe xn xo xp xu xd) H locs := hH
                obtain ⟨hi, hf⟩ := wp_n hf
                refine k_iald (f := xs) (n := 53) F hK hH 1 dX4_thing_92 hi rfl ?_
                refine lv_aload_n hx hb dX4_thing_93 rfl (lv_at hl 0 rfl) ?_
                refine k_get (v := .ref (ad 1)) F hK hH 0 inX4_thing_X4 0 mbX4_thing_f9 dX4_thing_94 rfl rfl (by decide) rfl ?_
                refine lv_iload_n hx hb dX4_thing_97 rfl (lv_at hl 1 rfl) ?_
                refine lv_iconst (v := 1) hx hb dX4_thing_98 (by decide) ?_
                obtain ⟨x7, hcl, hf⟩ := wp_b hf
                refine k_Si F hK hH hA hl.1 ⟨Nat.zero_le _, Nat.zero_le _⟩ [] [.int v1, .int 1] [.ref (ad 1), .int (xs (Int32.toNatClampNeg x6))] (ctX4_of v1 1 hcl) (va_cwS 2 hts gX4_thing_X4_of rfl rfl rfl hdSX4_of ⟨Nat.le_of_ble_eq_true rfl, Nat.le_of_ble_eq_true rfl⟩) dX4_thing_99 rfl rfl (Nat.le_of_ble_eq_true rfl) rfl rfl (by decide) (fun H locs hH => ?_)
                have hH : Hs D A s.heap (wMd cI ad xs xm xi xw xh xl xr xe xn xo xp xu xd) H locs := hH
                obtain ⟨hi, hf⟩ := wp_n hf
                refine k_iald (f := xs) (n := 53) F hK hH 1 dX4_thing_102 hi rfl ?_
                refine lv_aload_n hx hb dX4_thing_103 rfl (lv_at hl 0 rfl) ?_
                refine k_get (v := .ref (ad 1)) F hK hH 0 inX4_thing_X4 0 mbX4_thing_f9 dX4_thing_104 rfl rfl (by decide) rfl ?_
                refine lv_iconst (v := 1) hx hb dX4_thing_107 (by decide) ?_
                refine k_iald (f := xs) (n := 53) F hK hH 1 dX4_thing_108 (by decide) rfl ?_
                refine lv_iconst (v := 1) hx hb dX4_thing_109 (by decide) ?_
                refine lv_iadd hx hb dX4_thing_110 ?_
                obtain ⟨x8, hcl, hf⟩ := wp_b hf
                refine k_Si F hK hH hA hl.1 ⟨Nat.zero_le _, Nat.zero_le _⟩ [] [.int (xs (Int32.toNatClampNeg x6)), .int (xs (Int32.toNatClampNeg x7)), .int ((xs (Int32.toNatClampNeg 1)) + 1)] [] (ctX4_goesBy (xs (Int32.toNatClampNeg x6)) (xs (Int32.toNatClampNeg x7)) ((xs (Int32.toNatClampNeg 1)) + 1) hcl) (va_cwS 3 hts gX4_thing_X4_goesBy rfl rfl rfl hdSX4_goesBy ⟨Nat.le_of_ble_eq_true rfl, Nat.le_of_ble_eq_true rfl⟩) dX4_thing_111 rfl rfl (Nat.le_of_ble_eq_true rfl) rfl rfl (by decide) (fun H locs hH => ?_)
                have hH : Hs D A s.heap (wMd cI ad xs xm xi xw xh xl xr xe xn xo xp xu xd) H locs := hH
                have hrs := wp_s hf
                subst hrs
                exact RET H locs ls 114 dX4_thing_114 rfl hH
              · have hf := wp_f hc5 hf
                have hs0 := sw_ne hc0 (show (0 : Int32).toInt = 0 from rfl)
                have hs1 := sw_ne hc1 (show (1 : Int32).toInt = 1 from rfl)
                have hs2 := sw_ne hc2 (show (2 : Int32).toInt = 2 from rfl)
                have hs3 := sw_ne hc3 (show (3 : Int32).toInt = 3 from rfl)
                have hs4 := sw_ne hc4 (show (4 : Int32).toInt = 4 from rfl)
                have hs5 := sw_ne hc5 (show (5 : Int32).toInt = 5 from rfl)
                refine lv_tableOut (tgt := 115) hx hb dX4_thing_15 (by omega) (by decide) ?_
                refine lv_aload_n hx hb dX4_thing_115 rfl (lv_at hl 0 rfl) ?_
                refine lv_bipush (v := (-2)) hx hb dX4_thing_116 (by decide) ?_
                obtain ⟨x9, hcl, hf⟩ := wp_b hf
                refine k_Vi0 F hK hH hA hl.1 ⟨Nat.zero_le _, Nat.zero_le _⟩ [.int (-2)] [] (ctX4_no ad xs xm xi xw xh xl xr xe xn xo xp xu xd (-2) hcl) (cwV 1 hts gX4_thing_X4_no rfl rfl rfl hdVX4_no ⟨Nat.le_of_ble_eq_true rfl, Nat.le_of_ble_eq_true rfl⟩) dX4_thing_118 0 rfl rfl rfl rfl rfl (Nat.le_of_ble_eq_true rfl) rfl (fun H locs hH => ?_)
                have hH : Hs D A s.heap (wMd cI ad xs xm xi xw xh xl xr x9.2 xn xo xp xu xd) H locs := hH
                refine W.eq (g2 := F0 m 121 ls [.int x9.1]) rfl ?_
                have hrs := wp_s hf
                subst hrs
                exact RET H locs ls 121 dX4_thing_121 rfl hH
  · have hf := wp_t hc hf
    refine lv_aload_n hx hb dX4_thing_8 rfl (lv_at hl 0 rfl) ?_
    refine lv_iconst (v := (-1)) hx hb dX4_thing_9 (by decide) ?_
    obtain ⟨x10, hcl, hf⟩ := wp_b hf
    refine k_Vi0 F hK hH hA hl.1 ⟨Nat.zero_le _, Nat.zero_le _⟩ [.int (-1)] [] (ctX4_no ad xs xm xi xw xh xl xr xe xn xo xp xu xd (-1) hcl) (cwV 1 hts gX4_thing_X4_no rfl rfl rfl hdVX4_no ⟨Nat.le_of_ble_eq_true rfl, Nat.le_of_ble_eq_true rfl⟩) dX4_thing_10 0 rfl rfl rfl rfl rfl (Nat.le_of_ble_eq_true rfl) rfl (fun H locs hH => ?_)
    have hH : Hs D A s.heap (wMd cI ad xs xm xi xw xh xl xr x10.2 xn xo xp xu xd) H locs := hH
    refine W.eq (g2 := F0 m 13 ls [.int x10.1]) rfl ?_
    have hrs := wp_s hf
    subst hrs
    exact RET H locs ls 13 dX4_thing_13 rfl hH

def fX4_height (v1 : Int32) (xs : (Nat → Int32)) (xe : (Nat → Int32)) : Option (Int32 × (Nat → Int32)) :=
  Option.bind (fX4_isCell v1) fun x1 =>
  if x1 = 0 then
    Option.bind (fX4_no (-1) xe) fun x2 =>
    some (x2.1, x2.2)
  else
    if ob (4 + v1) 53 then none else
    some (xs (Int32.toNatClampNeg (4 + v1)), xe)

def rmX4_height : Room := { frames := 2, cells := 0, slots := 0, locals := 42 }
theorem mbX4_height_f9 : Cond.fieldLink RX4 9 (TX4 0).1 (TX4 0).2.1 (TX4 0).2.2.1 ∈ wsX4_height := by decide +kernel
theorem inX4_height_X4 : ∀ w ∈ wsX40, w ∈ wsX4_height := by decide +kernel
theorem hdVX4_height : yX4_height.cls = RX4 ∧ yX4_height.cls ≠ "java/lang/invoke/MethodHandle" ∧ yX4_height.cls ≠ "java/lang/invoke/VarHandle" ∧ (parseMethodDescriptor yX4_height.desc).map (fun d => d.parameters.length) = some 1 := by decide +kernel
set_option maxHeartbeats 4000000 in
set_option maxRecDepth 100000 in
theorem ctX4_height {l : Launch} {D : va_G} {cI cJ cQ : ClassId} (ad : Nat → Nat) (xs : (Nat → Int32)) (xm : (Nat → Int32)) (xi : (Nat → Int32)) (xw : (Nat → Int32)) (xh : Int32) (xl : (Nat → Int32)) (xr : (Nat → Int32)) (xe : (Nat → Int32)) (xn : Int32) (xo : Int32) (xp : Int32) (xu : (Nat → Int32)) (xd : Int32) (v1 : Int32) {res : Int32 × (Nat → Int32)} (h : fX4_height v1 xs xe = some res) : CtI l D cI cJ cQ yX4_height wsX4_height rmX4_height [.ref (ad 0), .int v1] (wMd cI ad xs xm xi xw xh xl xr xe xn xo xp xu xd) res.1 (wMd cI ad xs xm xi xw xh xl xr res.2 xn xo xp xu xd) := by
  refine ctI_of .int (cc := cX4_height) (maxL := 2) (by decide) rfl (Nat.le_of_ble_eq_true rfl) ?_
  intro p e s m args below meth c A Q ls F hK hA RET hH hl
  obtain ⟨hx, hb, hml, hown, hts⟩ := id F
  have hl : lv_has ls 2 [(0, .ref (ad 0)), (1, .int v1)] := hl
  have hf : wpO (fX4_height v1 xs xe) (fun v => v = res) := ⟨_, h, rfl⟩
  obtain ⟨H, eH⟩ : ∃ H, H = s.heap := ⟨_, rfl⟩
  obtain ⟨locs, eL⟩ : ∃ locs : List Loc, locs = [] := ⟨_, rfl⟩
  have hH : Hs D A s.heap (wMd cI ad xs xm xi xw xh xl xr xe xn xo xp xu xd) H locs := by rw [eH, eL]; exact hH
  rw [← eL]
  suffices hgo : W p l e rmX4_height s m args below meth c H locs 0 0 Q (F0 m 0 ls []) by rw [eH] at hgo; exact hgo
  clear eH eL
  refine lv_iload_n hx hb dX4_height_0 rfl (lv_at hl 1 rfl) ?_
  obtain ⟨x1, hcl, hf⟩ := wp_b hf
  refine k_Si F hK hH hA hl.1 ⟨Nat.zero_le _, Nat.zero_le _⟩ [] [.int v1] [] (ctX4_isCell v1 hcl) (va_cwS 1 hts gX4_height_X4_isCell rfl rfl rfl hdSX4_isCell ⟨Nat.le_of_ble_eq_true rfl, Nat.le_of_ble_eq_true rfl⟩) dX4_height_1 rfl rfl (Nat.le_of_ble_eq_true rfl) rfl rfl (by decide) (fun H locs hH => ?_)
  have hH : Hs D A s.heap (wMd cI ad xs xm xi xw xh xl xr xe xn xo xp xu xd) H locs := hH
  refine lv_if_eq (tgt := 18) hx hb dX4_height_4 (by decide) (fun hc => ?_) (fun hc => ?_)
  · have hf := wp_t hc hf
    refine lv_aload_n hx hb dX4_height_18 rfl (lv_at hl 0 rfl) ?_
    refine lv_iconst (v := (-1)) hx hb dX4_height_19 (by decide) ?_
    obtain ⟨x2, hcl, hf⟩ := wp_b hf
    refine k_Vi0 F hK hH hA hl.1 ⟨Nat.zero_le _, Nat.zero_le _⟩ [.int (-1)] [] (ctX4_no ad xs xm xi xw xh xl xr xe xn xo xp xu xd (-1) hcl) (cwV 1 hts gX4_height_X4_no rfl rfl rfl hdVX4_no ⟨Nat.le_of_ble_eq_true rfl, Nat.le_of_ble_eq_true rfl⟩) dX4_height_20 0 rfl rfl rfl rfl rfl (Nat.le_of_ble_eq_true rfl) rfl (fun H locs hH => ?_)
    have hH : Hs D A s.heap (wMd cI ad xs xm xi xw xh xl xr x2.2 xn xo xp xu xd) H locs := hH
    refine W.eq (g2 := F0 m 23 ls [.int x2.1]) rfl ?_
    have hrs := wp_s hf
    subst hrs
    exact RET H locs ls 23 dX4_height_23 rfl hH
  · have hf := wp_f hc hf
    refine lv_aload_n hx hb dX4_height_7 rfl (lv_at hl 0 rfl) ?_
    refine k_get (v := .ref (ad 1)) F hK hH 0 inX4_height_X4 0 mbX4_height_f9 dX4_height_8 rfl rfl (by decide) rfl ?_
    refine lv_iconst (v := 4) hx hb dX4_height_11 (by decide) ?_
    refine lv_iload_n hx hb dX4_height_12 rfl (lv_at hl 1 rfl) ?_
    refine lv_iadd hx hb dX4_height_13 ?_
    obtain ⟨hi, hf⟩ := wp_n hf
    refine k_iald (f := xs) (n := 53) F hK hH 1 dX4_height_14 hi rfl ?_
    refine lv_goto (tgt := 23) hx hb dX4_height_15 (by decide) ?_
    have hrs := wp_s hf
    subst hrs
    exact RET H locs ls 23 dX4_height_23 rfl hH

def fX4_code (v1 : Int32) (v2 : Int32) (xs : (Nat → Int32)) (xe : (Nat → Int32)) : Option (Int32 × (Nat → Int32)) :=
  Option.bind (fX4_isIn v1 0 5) fun x1 =>
  if x1 = 0 then
    Option.bind (fX4_no (-2) xe) fun x2 =>
    some (x2.1, x2.2)
  else
    Option.bind (fX4_isIn v2 0 1) fun x3 =>
    if x3 = 0 then
      Option.bind (fX4_no (-2) xe) fun x5 =>
      some (x5.1, x5.2)
    else
      Option.bind (if v2 = 0 then
          some 20
        else
          some 26) fun (t4 : Int32) =>
      if ob (t4 + v1) 53 then none else
      some (xs (Int32.toNatClampNeg (t4 + v1)), xe)

def rmX4_code : Room := { frames := 1, cells := 0, slots := 0, locals := 22 }
theorem mbX4_code_f9 : Cond.fieldLink RX4 9 (TX4 0).1 (TX4 0).2.1 (TX4 0).2.2.1 ∈ wsX4_code := by decide +kernel
theorem inX4_code_X4 : ∀ w ∈ wsX40, w ∈ wsX4_code := by decide +kernel
theorem hdVX4_code : yX4_code.cls = RX4 ∧ yX4_code.cls ≠ "java/lang/invoke/MethodHandle" ∧ yX4_code.cls ≠ "java/lang/invoke/VarHandle" ∧ (parseMethodDescriptor yX4_code.desc).map (fun d => d.parameters.length) = some 2 := by decide +kernel
set_option maxHeartbeats 4000000 in
set_option maxRecDepth 100000 in
theorem ctX4_code {l : Launch} {D : va_G} {cI cJ cQ : ClassId} (ad : Nat → Nat) (xs : (Nat → Int32)) (xm : (Nat → Int32)) (xi : (Nat → Int32)) (xw : (Nat → Int32)) (xh : Int32) (xl : (Nat → Int32)) (xr : (Nat → Int32)) (xe : (Nat → Int32)) (xn : Int32) (xo : Int32) (xp : Int32) (xu : (Nat → Int32)) (xd : Int32) (v1 : Int32) (v2 : Int32) {res : Int32 × (Nat → Int32)} (h : fX4_code v1 v2 xs xe = some res) : CtI l D cI cJ cQ yX4_code wsX4_code rmX4_code [.ref (ad 0), .int v1, .int v2] (wMd cI ad xs xm xi xw xh xl xr xe xn xo xp xu xd) res.1 (wMd cI ad xs xm xi xw xh xl xr res.2 xn xo xp xu xd) := by
  refine ctI_of .int (cc := cX4_code) (maxL := 3) (by decide) rfl (Nat.le_of_ble_eq_true rfl) ?_
  intro p e s m args below meth c A Q ls F hK hA RET hH hl
  obtain ⟨hx, hb, hml, hown, hts⟩ := id F
  have hl : lv_has ls 3 [(0, .ref (ad 0)), (1, .int v1), (2, .int v2)] := hl
  have hf : wpO (fX4_code v1 v2 xs xe) (fun v => v = res) := ⟨_, h, rfl⟩
  obtain ⟨H, eH⟩ : ∃ H, H = s.heap := ⟨_, rfl⟩
  obtain ⟨locs, eL⟩ : ∃ locs : List Loc, locs = [] := ⟨_, rfl⟩
  have hH : Hs D A s.heap (wMd cI ad xs xm xi xw xh xl xr xe xn xo xp xu xd) H locs := by rw [eH, eL]; exact hH
  rw [← eL]
  suffices hgo : W p l e rmX4_code s m args below meth c H locs 0 0 Q (F0 m 0 ls []) by rw [eH] at hgo; exact hgo
  clear eH eL
  refine lv_iload_n hx hb dX4_code_0 rfl (lv_at hl 1 rfl) ?_
  refine lv_iconst (v := 0) hx hb dX4_code_1 (by decide) ?_
  refine lv_iconst (v := 5) hx hb dX4_code_2 (by decide) ?_
  obtain ⟨x1, hcl, hf⟩ := wp_b hf
  refine k_Si F hK hH hA hl.1 ⟨Nat.zero_le _, Nat.zero_le _⟩ [] [.int v1, .int 0, .int 5] [] (ctX4_isIn v1 0 5 hcl) (va_cwS 3 hts gX4_code_X4_isIn rfl rfl rfl hdSX4_isIn ⟨Nat.le_of_ble_eq_true rfl, Nat.le_of_ble_eq_true rfl⟩) dX4_code_3 rfl rfl (Nat.le_of_ble_eq_true rfl) rfl rfl (by decide) (fun H locs hH => ?_)
  have hH : Hs D A s.heap (wMd cI ad xs xm xi xw xh xl xr xe xn xo xp xu xd) H locs := hH
  refine lv_if_eq (tgt := 18) hx hb dX4_code_6 (by decide) (fun hc => ?_) (fun hc => ?_)
  · have hf := wp_t hc hf
    refine lv_aload_n hx hb dX4_code_18 rfl (lv_at hl 0 rfl) ?_
    refine lv_bipush (v := (-2)) hx hb dX4_code_19 (by decide) ?_
    obtain ⟨x2, hcl, hf⟩ := wp_b hf
    refine k_Vi0 F hK hH hA hl.1 ⟨Nat.zero_le _, Nat.zero_le _⟩ [.int (-2)] [] (ctX4_no ad xs xm xi xw xh xl xr xe xn xo xp xu xd (-2) hcl) (cwV 1 hts gX4_code_X4_no rfl rfl rfl hdVX4_no ⟨Nat.le_of_ble_eq_true rfl, Nat.le_of_ble_eq_true rfl⟩) dX4_code_21 0 rfl rfl rfl rfl rfl (Nat.le_of_ble_eq_true rfl) rfl (fun H locs hH => ?_)
    have hH : Hs D A s.heap (wMd cI ad xs xm xi xw xh xl xr x2.2 xn xo xp xu xd) H locs := hH
    refine W.eq (g2 := F0 m 24 ls [.int x2.1]) rfl ?_
    have hrs := wp_s hf
    subst hrs
    exact RET H locs ls 24 dX4_code_24 rfl hH
  · have hf := wp_f hc hf
    refine lv_iload_n hx hb dX4_code_9 rfl (lv_at hl 2 rfl) ?_
    refine lv_iconst (v := 0) hx hb dX4_code_10 (by decide) ?_
    refine lv_iconst (v := 1) hx hb dX4_code_11 (by decide) ?_
    obtain ⟨x3, hcl, hf⟩ := wp_b hf
    refine k_Si F hK hH hA hl.1 ⟨Nat.zero_le _, Nat.zero_le _⟩ [] [.int v2, .int 0, .int 1] [] (ctX4_isIn v2 0 1 hcl) (va_cwS 3 hts gX4_code_X4_isIn rfl rfl rfl hdSX4_isIn ⟨Nat.le_of_ble_eq_true rfl, Nat.le_of_ble_eq_true rfl⟩) dX4_code_12 rfl rfl (Nat.le_of_ble_eq_true rfl) rfl rfl (by decide) (fun H locs hH => ?_)
    have hH : Hs D A s.heap (wMd cI ad xs xm xi xw xh xl xr xe xn xo xp xu xd) H locs := hH
    refine lv_if_ne (tgt := 25) hx hb dX4_code_15 (by decide) (fun hc => ?_) (fun hc => ?_)
    · have hf := wp_f hc hf
      refine lv_aload_n hx hb dX4_code_25 rfl (lv_at hl 0 rfl) ?_
      refine k_get (v := .ref (ad 1)) F hK hH 0 inX4_code_X4 0 mbX4_code_f9 dX4_code_26 rfl rfl (by decide) rfl ?_
      refine lv_iload_n hx hb dX4_code_29 rfl (lv_at hl 2 rfl) ?_
      refine join_ (α := Int32) (fun Φ => ∀ (t4 : Int32) (H : Heap) (locs : List Loc) (ls : Array Slot), Φ t4 → Hs D A s.heap (wMd cI ad xs xm xi xw xh xl xr xe xn xo xp xu xd) H locs → lv_has ls 3 [(1, .int v1)] → W p l e rmX4_code s m args below meth c H locs 0 0 Q (F0 m 40 ls [.int t4, .ref (ad 1)])) (wp_bb hf) ?_ ?_
      · intro t4 H locs ls hf hH hl
        refine lv_iload_n hx hb dX4_code_40 rfl (lv_at hl 0 rfl) ?_
        refine lv_iadd hx hb dX4_code_41 ?_
        obtain ⟨hi, hf⟩ := wp_n hf
        refine k_iald (f := xs) (n := 53) F hK hH 1 dX4_code_42 hi rfl ?_
        have hrs := wp_s hf
        subst hrs
        exact RET H locs ls 43 dX4_code_43 rfl hH
      · intro Φ JJ hf
        refine lv_if_ne (tgt := 38) hx hb dX4_code_30 (by decide) (fun hc => ?_) (fun hc => ?_)
        · have hf := wp_f hc hf
          refine lv_bipush (v := 26) hx hb dX4_code_38 (by decide) ?_
          have hw := wp_s hf
          exact JJ _ _ _ _ hw hH (lv_sub hl [1] rfl)
        · have hf := wp_t hc hf
          refine lv_bipush (v := 20) hx hb dX4_code_33 (by decide) ?_
          refine lv_goto (tgt := 40) hx hb dX4_code_35 (by decide) ?_
          have hw := wp_s hf
          exact JJ _ _ _ _ hw hH (lv_sub hl [1] rfl)
    · have hf := wp_t hc hf
      refine lv_aload_n hx hb dX4_code_18 rfl (lv_at hl 0 rfl) ?_
      refine lv_bipush (v := (-2)) hx hb dX4_code_19 (by decide) ?_
      obtain ⟨x5, hcl, hf⟩ := wp_b hf
      refine k_Vi0 F hK hH hA hl.1 ⟨Nat.zero_le _, Nat.zero_le _⟩ [.int (-2)] [] (ctX4_no ad xs xm xi xw xh xl xr xe xn xo xp xu xd (-2) hcl) (cwV 1 hts gX4_code_X4_no rfl rfl rfl hdVX4_no ⟨Nat.le_of_ble_eq_true rfl, Nat.le_of_ble_eq_true rfl⟩) dX4_code_21 0 rfl rfl rfl rfl rfl (Nat.le_of_ble_eq_true rfl) rfl (fun H locs hH => ?_)
      have hH : Hs D A s.heap (wMd cI ad xs xm xi xw xh xl xr x5.2 xn xo xp xu xd) H locs := hH
      refine W.eq (g2 := F0 m 24 ls [.int x5.1]) rfl ?_
      have hrs := wp_s hf
      subst hrs
      exact RET H locs ls 24 dX4_code_24 rfl hH

def fX4_wrongBy (v0 : Int32) (v1 : Int32) (v2 : Int32) : Option (Int32) :=
  if v1 ≤ v0 then
    if v0 ≤ v2 then
      some 0
    else
      some (-6)
  else
    some (-4)

def rmX4_wrongBy : Room := { frames := 0, cells := 0, slots := 0, locals := 0 }
theorem hdSX4_wrongBy : yX4_wrongBy.cls ≠ "java/lang/invoke/MethodHandle" ∧ yX4_wrongBy.cls ≠ "java/lang/invoke/VarHandle" ∧ (parseMethodDescriptor yX4_wrongBy.desc).map (fun d => d.parameters.length) = some 3 := by decide +kernel
set_option maxHeartbeats 4000000 in
set_option maxRecDepth 100000 in
theorem ctX4_wrongBy {l : Launch} {D : va_G} {cI cJ cQ : ClassId}   (v0 : Int32) (v1 : Int32) (v2 : Int32) {res : Int32} (h : fX4_wrongBy v0 v1 v2 = some res) : CtI l D cI cJ cQ yX4_wrongBy wsX4_wrongBy rmX4_wrongBy [.int v0, .int v1, .int v2] ([]) res ([]) := by
  refine ctI_of .int (cc := cX4_wrongBy) (maxL := 3) (by decide) rfl (Nat.le_of_ble_eq_true rfl) ?_
  intro p e s m args below meth c A Q ls F hK hA RET hH hl
  obtain ⟨hx, hb, hml, hown, hts⟩ := id F
  have hl : lv_has ls 3 [(0, .int v0), (1, .int v1), (2, .int v2)] := hl
  have hf : wpO (fX4_wrongBy v0 v1 v2) (fun v => v = res) := ⟨_, h, rfl⟩
  obtain ⟨H, eH⟩ : ∃ H, H = s.heap := ⟨_, rfl⟩
  obtain ⟨locs, eL⟩ : ∃ locs : List Loc, locs = [] := ⟨_, rfl⟩
  have hH : Hs D A s.heap ([]) H locs := by rw [eH, eL]; exact hH
  rw [← eL]
  suffices hgo : W p l e rmX4_wrongBy s m args below meth c H locs 0 0 Q (F0 m 0 ls []) by rw [eH] at hgo; exact hgo
  clear eH eL
  refine lv_iload_n hx hb dX4_wrongBy_0 rfl (lv_at hl 0 rfl) ?_
  refine lv_iload_n hx hb dX4_wrongBy_1 rfl (lv_at hl 1 rfl) ?_
  refine lv_icmp_ge (tgt := 10) hx hb dX4_wrongBy_2 (by decide) (fun hc => ?_) (fun hc => ?_)
  · have hf := wp_t hc hf
    refine lv_iload_n hx hb dX4_wrongBy_10 rfl (lv_at hl 0 rfl) ?_
    refine lv_iload_n hx hb dX4_wrongBy_11 rfl (lv_at hl 2 rfl) ?_
    refine lv_icmp_le (tgt := 20) hx hb dX4_wrongBy_12 (by decide) (fun hc => ?_) (fun hc => ?_)
    · have hf := wp_t hc hf
      refine lv_iconst (v := 0) hx hb dX4_wrongBy_20 (by decide) ?_
      have hrs := wp_s hf
      subst hrs
      exact RET H locs ls 21 dX4_wrongBy_21 rfl hH
    · have hf := wp_f hc hf
      refine lv_bipush (v := (-6)) hx hb dX4_wrongBy_15 (by decide) ?_
      refine lv_goto (tgt := 21) hx hb dX4_wrongBy_17 (by decide) ?_
      have hrs := wp_s hf
      subst hrs
      exact RET H locs ls 21 dX4_wrongBy_21 rfl hH
  · have hf := wp_f hc hf
    refine lv_bipush (v := (-4)) hx hb dX4_wrongBy_5 (by decide) ?_
    refine lv_goto (tgt := 21) hx hb dX4_wrongBy_7 (by decide) ?_
    have hrs := wp_s hf
    subst hrs
    exact RET H locs ls 21 dX4_wrongBy_21 rfl hH

def fX4_sets (v1 : Int32) (v2 : Int32) (xs : (Nat → Int32)) : Option (Int32 × (Nat → Int32)) :=
  if ob v1 53 then none else
  if ob v1 53 then none else
  some (xs (Int32.toNatClampNeg v1), upd xs (Int32.toNatClampNeg v1) v2)

def rmX4_sets : Room := { frames := 0, cells := 0, slots := 0, locals := 0 }
theorem mbX4_sets_f9 : Cond.fieldLink RX4 9 (TX4 0).1 (TX4 0).2.1 (TX4 0).2.2.1 ∈ wsX4_sets := by decide +kernel
theorem inX4_sets_X4 : ∀ w ∈ wsX40, w ∈ wsX4_sets := by decide +kernel
theorem hdVX4_sets : yX4_sets.cls = RX4 ∧ yX4_sets.cls ≠ "java/lang/invoke/MethodHandle" ∧ yX4_sets.cls ≠ "java/lang/invoke/VarHandle" ∧ (parseMethodDescriptor yX4_sets.desc).map (fun d => d.parameters.length) = some 2 := by decide +kernel
set_option maxHeartbeats 4000000 in
set_option maxRecDepth 100000 in
theorem ctX4_sets {l : Launch} {D : va_G} {cI cJ cQ : ClassId} (ad : Nat → Nat) (xs : (Nat → Int32)) (xm : (Nat → Int32)) (xi : (Nat → Int32)) (xw : (Nat → Int32)) (xh : Int32) (xl : (Nat → Int32)) (xr : (Nat → Int32)) (xe : (Nat → Int32)) (xn : Int32) (xo : Int32) (xp : Int32) (xu : (Nat → Int32)) (xd : Int32) (v1 : Int32) (v2 : Int32) {res : Int32 × (Nat → Int32)} (h : fX4_sets v1 v2 xs = some res) : CtI l D cI cJ cQ yX4_sets wsX4_sets rmX4_sets [.ref (ad 0), .int v1, .int v2] (wMd cI ad xs xm xi xw xh xl xr xe xn xo xp xu xd) res.1 (wMd cI ad res.2 xm xi xw xh xl xr xe xn xo xp xu xd) := by
  refine ctI_of .int (cc := cX4_sets) (maxL := 4) (by decide) rfl (Nat.le_of_ble_eq_true rfl) ?_
  intro p e s m args below meth c A Q ls F hK hA RET hH hl
  obtain ⟨hx, hb, hml, hown, hts⟩ := id F
  have hl : lv_has ls 4 [(0, .ref (ad 0)), (1, .int v1), (2, .int v2)] := hl
  have hf : wpO (fX4_sets v1 v2 xs) (fun v => v = res) := ⟨_, h, rfl⟩
  obtain ⟨H, eH⟩ : ∃ H, H = s.heap := ⟨_, rfl⟩
  obtain ⟨locs, eL⟩ : ∃ locs : List Loc, locs = [] := ⟨_, rfl⟩
  have hH : Hs D A s.heap (wMd cI ad xs xm xi xw xh xl xr xe xn xo xp xu xd) H locs := by rw [eH, eL]; exact hH
  rw [← eL]
  suffices hgo : W p l e rmX4_sets s m args below meth c H locs 0 0 Q (F0 m 0 ls []) by rw [eH] at hgo; exact hgo
  clear eH eL
  refine lv_aload_n hx hb dX4_sets_0 rfl (lv_at hl 0 rfl) ?_
  refine k_get (v := .ref (ad 1)) F hK hH 0 inX4_sets_X4 0 mbX4_sets_f9 dX4_sets_1 rfl rfl (by decide) rfl ?_
  refine lv_iload_n hx hb dX4_sets_4 rfl (lv_at hl 1 rfl) ?_
  obtain ⟨hi, hf⟩ := wp_n hf
  refine k_iald (f := xs) (n := 53) F hK hH 1 dX4_sets_5 hi rfl ?_
  refine lv_istore_n (lv' := [(3, .int (xs (Int32.toNatClampNeg v1))), (0, .ref (ad 0)), (1, .int v1), (2, .int v2)]) hx hb dX4_sets_6 rfl hl (by decide) rfl (fun ls hl => ?_)
  refine lv_aload_n hx hb dX4_sets_7 rfl (lv_at hl 1 rfl) ?_
  refine k_get (v := .ref (ad 1)) F hK hH 0 inX4_sets_X4 0 mbX4_sets_f9 dX4_sets_8 rfl rfl (by decide) rfl ?_
  refine lv_iload_n hx hb dX4_sets_11 rfl (lv_at hl 2 rfl) ?_
  refine lv_iload_n hx hb dX4_sets_12 rfl (lv_at hl 3 rfl) ?_
  obtain ⟨hi, hf⟩ := wp_n hf
  refine k_iast (f := xs) (n := 53) F hK hH 1 dX4_sets_13 hi rfl (fun H locs hH => ?_)
  have hH : Hs D A s.heap (wMd cI ad (upd xs (Int32.toNatClampNeg v1) v2) xm xi xw xh xl xr xe xn xo xp xu xd) H locs := hH
  refine lv_iload_n hx hb dX4_sets_14 rfl (lv_at hl 0 rfl) ?_
  have hrs := wp_s hf
  subst hrs
  exact RET H locs ls 15 dX4_sets_15 rfl hH

def fX4_heaps (v1 : Int32) (v2 : Int32) (xs : (Nat → Int32)) (xe : (Nat → Int32)) : Option (Int32 × (Nat → Int32) × (Nat → Int32)) :=
  Option.bind (fX4_isCell v1) fun x1 =>
  Option.bind (if x1 = 0 then
      some (-1)
    else
      Option.bind (fX4_wrongBy v2 0 9) fun x3 =>
      some x3) fun (t2 : Int32) =>
  if t2 = 0 then
    Option.bind (fX4_sets (4 + v1) v2 xs) fun x4 =>
    some (x4.1, x4.2, xe)
  else
    Option.bind (fX4_no t2 xe) fun x5 =>
    some (x5.1, xs, x5.2)

def rmX4_heaps : Room := { frames := 2, cells := 0, slots := 0, locals := 42 }
theorem hdVX4_heaps : yX4_heaps.cls = RX4 ∧ yX4_heaps.cls ≠ "java/lang/invoke/MethodHandle" ∧ yX4_heaps.cls ≠ "java/lang/invoke/VarHandle" ∧ (parseMethodDescriptor yX4_heaps.desc).map (fun d => d.parameters.length) = some 2 := by decide +kernel
set_option maxHeartbeats 4000000 in
set_option maxRecDepth 100000 in
theorem ctX4_heaps {l : Launch} {D : va_G} {cI cJ cQ : ClassId} (ad : Nat → Nat) (xs : (Nat → Int32)) (xm : (Nat → Int32)) (xi : (Nat → Int32)) (xw : (Nat → Int32)) (xh : Int32) (xl : (Nat → Int32)) (xr : (Nat → Int32)) (xe : (Nat → Int32)) (xn : Int32) (xo : Int32) (xp : Int32) (xu : (Nat → Int32)) (xd : Int32) (v1 : Int32) (v2 : Int32) {res : Int32 × (Nat → Int32) × (Nat → Int32)} (h : fX4_heaps v1 v2 xs xe = some res) : CtI l D cI cJ cQ yX4_heaps wsX4_heaps rmX4_heaps [.ref (ad 0), .int v1, .int v2] (wMd cI ad xs xm xi xw xh xl xr xe xn xo xp xu xd) res.1 (wMd cI ad res.2.1 xm xi xw xh xl xr res.2.2 xn xo xp xu xd) := by
  refine ctI_of .int (cc := cX4_heaps) (maxL := 4) (by decide) rfl (Nat.le_of_ble_eq_true rfl) ?_
  intro p e s m args below meth c A Q ls F hK hA RET hH hl
  obtain ⟨hx, hb, hml, hown, hts⟩ := id F
  have hl : lv_has ls 4 [(0, .ref (ad 0)), (1, .int v1), (2, .int v2)] := hl
  have hf : wpO (fX4_heaps v1 v2 xs xe) (fun v => v = res) := ⟨_, h, rfl⟩
  obtain ⟨H, eH⟩ : ∃ H, H = s.heap := ⟨_, rfl⟩
  obtain ⟨locs, eL⟩ : ∃ locs : List Loc, locs = [] := ⟨_, rfl⟩
  have hH : Hs D A s.heap (wMd cI ad xs xm xi xw xh xl xr xe xn xo xp xu xd) H locs := by rw [eH, eL]; exact hH
  rw [← eL]
  suffices hgo : W p l e rmX4_heaps s m args below meth c H locs 0 0 Q (F0 m 0 ls []) by rw [eH] at hgo; exact hgo
  clear eH eL
  refine lv_iload_n hx hb dX4_heaps_0 rfl (lv_at hl 1 rfl) ?_
  obtain ⟨x1, hcl, hf⟩ := wp_b hf
  refine k_Si F hK hH hA hl.1 ⟨Nat.zero_le _, Nat.zero_le _⟩ [] [.int v1] [] (ctX4_isCell v1 hcl) (va_cwS 1 hts gX4_heaps_X4_isCell rfl rfl rfl hdSX4_isCell ⟨Nat.le_of_ble_eq_true rfl, Nat.le_of_ble_eq_true rfl⟩) dX4_heaps_1 rfl rfl (Nat.le_of_ble_eq_true rfl) rfl rfl (by decide) (fun H locs hH => ?_)
  have hH : Hs D A s.heap (wMd cI ad xs xm xi xw xh xl xr xe xn xo xp xu xd) H locs := hH
  refine join_ (α := Int32) (fun Φ => ∀ (t2 : Int32) (H : Heap) (locs : List Loc) (ls : Array Slot), Φ t2 → Hs D A s.heap (wMd cI ad xs xm xi xw xh xl xr xe xn xo xp xu xd) H locs → lv_has ls 4 [(0, .ref (ad 0)), (1, .int v1), (2, .int v2)] → W p l e rmX4_heaps s m args below meth c H locs 0 0 Q (F0 m 18 ls [.int t2])) (wp_bb hf) ?_ ?_
  · intro t2 H locs ls hf hH hl
    refine lv_istore_n (lv' := [(3, .int t2), (0, .ref (ad 0)), (1, .int v1), (2, .int v2)]) hx hb dX4_heaps_18 rfl hl (by decide) rfl (fun ls hl => ?_)
    refine lv_iload_n hx hb dX4_heaps_19 rfl (lv_at hl 0 rfl) ?_
    refine lv_if_eq (tgt := 31) hx hb dX4_heaps_20 (by decide) (fun hc => ?_) (fun hc => ?_)
    · have hf := wp_t hc hf
      refine lv_aload_n hx hb dX4_heaps_31 rfl (lv_at hl 1 rfl) ?_
      refine lv_iconst (v := 4) hx hb dX4_heaps_32 (by decide) ?_
      refine lv_iload_n hx hb dX4_heaps_33 rfl (lv_at hl 2 rfl) ?_
      refine lv_iadd hx hb dX4_heaps_34 ?_
      refine lv_iload_n hx hb dX4_heaps_35 rfl (lv_at hl 3 rfl) ?_
      obtain ⟨x4, hcl, hf⟩ := wp_b hf
      refine k_Vi0 F hK hH hA hl.1 ⟨Nat.zero_le _, Nat.zero_le _⟩ [.int (4 + v1), .int v2] [] (ctX4_sets ad xs xm xi xw xh xl xr xe xn xo xp xu xd (4 + v1) v2 hcl) (cwV 2 hts gX4_heaps_X4_sets rfl rfl rfl hdVX4_sets ⟨Nat.le_of_ble_eq_true rfl, Nat.le_of_ble_eq_true rfl⟩) dX4_heaps_36 0 rfl rfl rfl rfl rfl (Nat.le_of_ble_eq_true rfl) rfl (fun H locs hH => ?_)
      have hH : Hs D A s.heap (wMd cI ad x4.2 xm xi xw xh xl xr xe xn xo xp xu xd) H locs := hH
      refine W.eq (g2 := F0 m 39 ls [.int x4.1]) rfl ?_
      have hrs := wp_s hf
      subst hrs
      exact RET H locs ls 39 dX4_heaps_39 rfl hH
    · have hf := wp_f hc hf
      refine lv_aload_n hx hb dX4_heaps_23 rfl (lv_at hl 1 rfl) ?_
      refine lv_iload_n hx hb dX4_heaps_24 rfl (lv_at hl 0 rfl) ?_
      obtain ⟨x5, hcl, hf⟩ := wp_b hf
      refine k_Vi0 F hK hH hA hl.1 ⟨Nat.zero_le _, Nat.zero_le _⟩ [.int t2] [] (ctX4_no ad xs xm xi xw xh xl xr xe xn xo xp xu xd t2 hcl) (cwV 1 hts gX4_heaps_X4_no rfl rfl rfl hdVX4_no ⟨Nat.le_of_ble_eq_true rfl, Nat.le_of_ble_eq_true rfl⟩) dX4_heaps_25 0 rfl rfl rfl rfl rfl (Nat.le_of_ble_eq_true rfl) rfl (fun H locs hH => ?_)
      have hH : Hs D A s.heap (wMd cI ad xs xm xi xw xh xl xr x5.2 xn xo xp xu xd) H locs := hH
      refine W.eq (g2 := F0 m 28 ls [.int x5.1]) rfl ?_
      refine lv_goto (tgt := 39) hx hb dX4_heaps_28 (by decide) ?_
      have hrs := wp_s hf
      subst hrs
      exact RET H locs ls 39 dX4_heaps_39 rfl hH
  · intro Φ JJ hf
    refine lv_if_eq (tgt := 17) hx hb dX4_heaps_4 (by decide) (fun hc => ?_) (fun hc => ?_)
    · have hf := wp_t hc hf
      refine lv_iconst (v := (-1)) hx hb dX4_heaps_17 (by decide) ?_
      have hw := wp_s hf
      exact JJ _ _ _ _ hw hH (lv_sub hl [0, 1, 2] rfl)
    · have hf := wp_f hc hf
      refine lv_iload_n hx hb dX4_heaps_7 rfl (lv_at hl 2 rfl) ?_
      refine lv_iconst (v := 0) hx hb dX4_heaps_8 (by decide) ?_
      refine lv_bipush (v := 9) hx hb dX4_heaps_9 (by decide) ?_
      obtain ⟨x3, hcl, hf⟩ := wp_b hf
      refine k_Si F hK hH hA hl.1 ⟨Nat.zero_le _, Nat.zero_le _⟩ [] [.int v2, .int 0, .int 9] [] (ctX4_wrongBy v2 0 9 hcl) (va_cwS 3 hts gX4_heaps_X4_wrongBy rfl rfl rfl hdSX4_wrongBy ⟨Nat.le_of_ble_eq_true rfl, Nat.le_of_ble_eq_true rfl⟩) dX4_heaps_11 rfl rfl (Nat.le_of_ble_eq_true rfl) rfl rfl (by decide) (fun H locs hH => ?_)
      have hH : Hs D A s.heap (wMd cI ad xs xm xi xw xh xl xr xe xn xo xp xu xd) H locs := hH
      refine lv_goto (tgt := 18) hx hb dX4_heaps_14 (by decide) ?_
      have hw := wp_s hf
      exact JJ _ _ _ _ hw hH (lv_sub hl [0, 1, 2] rfl)

def fX4_drives (v1 : Int32) (v2 : Int32) (xs : (Nat → Int32)) (xe : (Nat → Int32)) : Option (Int32 × (Nat → Int32) × (Nat → Int32)) :=
  Option.bind (fX4_isThing v1 xs) fun x1 =>
  if x1 = 0 then
    Option.bind (fX4_no (-1) xe) fun x2 =>
    some (x2.1, xs, x2.2)
  else
    Option.bind (fX4_isCell v2) fun x3 =>
    if x3 = 0 then
      Option.bind (fX4_no (-1) xe) fun x4 =>
      some (x4.1, xs, x4.2)
    else
      Option.bind (fX4_of v1 2) fun x5 =>
      Option.bind (fX4_sets x5 v2 xs) fun x6 =>
      some (x6.1, x6.2, xe)

def rmX4_drives : Room := { frames := 2, cells := 0, slots := 0, locals := 43 }
theorem hdVX4_drives : yX4_drives.cls = RX4 ∧ yX4_drives.cls ≠ "java/lang/invoke/MethodHandle" ∧ yX4_drives.cls ≠ "java/lang/invoke/VarHandle" ∧ (parseMethodDescriptor yX4_drives.desc).map (fun d => d.parameters.length) = some 2 := by decide +kernel
set_option maxHeartbeats 4000000 in
set_option maxRecDepth 100000 in
theorem ctX4_drives {l : Launch} {D : va_G} {cI cJ cQ : ClassId} (ad : Nat → Nat) (xs : (Nat → Int32)) (xm : (Nat → Int32)) (xi : (Nat → Int32)) (xw : (Nat → Int32)) (xh : Int32) (xl : (Nat → Int32)) (xr : (Nat → Int32)) (xe : (Nat → Int32)) (xn : Int32) (xo : Int32) (xp : Int32) (xu : (Nat → Int32)) (xd : Int32) (v1 : Int32) (v2 : Int32) {res : Int32 × (Nat → Int32) × (Nat → Int32)} (h : fX4_drives v1 v2 xs xe = some res) : CtI l D cI cJ cQ yX4_drives wsX4_drives rmX4_drives [.ref (ad 0), .int v1, .int v2] (wMd cI ad xs xm xi xw xh xl xr xe xn xo xp xu xd) res.1 (wMd cI ad res.2.1 xm xi xw xh xl xr res.2.2 xn xo xp xu xd) := by
  refine ctI_of .int (cc := cX4_drives) (maxL := 3) (by decide) rfl (Nat.le_of_ble_eq_true rfl) ?_
  intro p e s m args below meth c A Q ls F hK hA RET hH hl
  obtain ⟨hx, hb, hml, hown, hts⟩ := id F
  have hl : lv_has ls 3 [(0, .ref (ad 0)), (1, .int v1), (2, .int v2)] := hl
  have hf : wpO (fX4_drives v1 v2 xs xe) (fun v => v = res) := ⟨_, h, rfl⟩
  obtain ⟨H, eH⟩ : ∃ H, H = s.heap := ⟨_, rfl⟩
  obtain ⟨locs, eL⟩ : ∃ locs : List Loc, locs = [] := ⟨_, rfl⟩
  have hH : Hs D A s.heap (wMd cI ad xs xm xi xw xh xl xr xe xn xo xp xu xd) H locs := by rw [eH, eL]; exact hH
  rw [← eL]
  suffices hgo : W p l e rmX4_drives s m args below meth c H locs 0 0 Q (F0 m 0 ls []) by rw [eH] at hgo; exact hgo
  clear eH eL
  refine lv_aload_n hx hb dX4_drives_0 rfl (lv_at hl 0 rfl) ?_
  refine lv_iload_n hx hb dX4_drives_1 rfl (lv_at hl 1 rfl) ?_
  obtain ⟨x1, hcl, hf⟩ := wp_b hf
  refine k_Vi0 F hK hH hA hl.1 ⟨Nat.zero_le _, Nat.zero_le _⟩ [.int v1] [] (ctX4_isThing ad xs xm xi xw xh xl xr xe xn xo xp xu xd v1 hcl) (cwV 1 hts gX4_drives_X4_isThing rfl rfl rfl hdVX4_isThing ⟨Nat.le_of_ble_eq_true rfl, Nat.le_of_ble_eq_true rfl⟩) dX4_drives_2 0 rfl rfl rfl rfl rfl (Nat.le_of_ble_eq_true rfl) rfl (fun H locs hH => ?_)
  have hH : Hs D A s.heap (wMd cI ad xs xm xi xw xh xl xr xe xn xo xp xu xd) H locs := hH
  refine lv_if_eq (tgt := 28) hx hb dX4_drives_5 (by decide) (fun hc => ?_) (fun hc => ?_)
  · have hf := wp_t hc hf
    refine lv_aload_n hx hb dX4_drives_28 rfl (lv_at hl 0 rfl) ?_
    refine lv_iconst (v := (-1)) hx hb dX4_drives_29 (by decide) ?_
    obtain ⟨x2, hcl, hf⟩ := wp_b hf
    refine k_Vi0 F hK hH hA hl.1 ⟨Nat.zero_le _, Nat.zero_le _⟩ [.int (-1)] [] (ctX4_no ad xs xm xi xw xh xl xr xe xn xo xp xu xd (-1) hcl) (cwV 1 hts gX4_drives_X4_no rfl rfl rfl hdVX4_no ⟨Nat.le_of_ble_eq_true rfl, Nat.le_of_ble_eq_true rfl⟩) dX4_drives_30 0 rfl rfl rfl rfl rfl (Nat.le_of_ble_eq_true rfl) rfl (fun H locs hH => ?_)
    have hH : Hs D A s.heap (wMd cI ad xs xm xi xw xh xl xr x2.2 xn xo xp xu xd) H locs := hH
    refine W.eq (g2 := F0 m 33 ls [.int x2.1]) rfl ?_
    have hrs := wp_s hf
    subst hrs
    exact RET H locs ls 33 dX4_drives_33 rfl hH
  · have hf := wp_f hc hf
    refine lv_iload_n hx hb dX4_drives_8 rfl (lv_at hl 2 rfl) ?_
    obtain ⟨x3, hcl, hf⟩ := wp_b hf
    refine k_Si F hK hH hA hl.1 ⟨Nat.zero_le _, Nat.zero_le _⟩ [] [.int v2] [] (ctX4_isCell v2 hcl) (va_cwS 1 hts gX4_drives_X4_isCell rfl rfl rfl hdSX4_isCell ⟨Nat.le_of_ble_eq_true rfl, Nat.le_of_ble_eq_true rfl⟩) dX4_drives_9 rfl rfl (Nat.le_of_ble_eq_true rfl) rfl rfl (by decide) (fun H locs hH => ?_)
    have hH : Hs D A s.heap (wMd cI ad xs xm xi xw xh xl xr xe xn xo xp xu xd) H locs := hH
    refine lv_if_eq (tgt := 28) hx hb dX4_drives_12 (by decide) (fun hc => ?_) (fun hc => ?_)
    · have hf := wp_t hc hf
      refine lv_aload_n hx hb dX4_drives_28 rfl (lv_at hl 0 rfl) ?_
      refine lv_iconst (v := (-1)) hx hb dX4_drives_29 (by decide) ?_
      obtain ⟨x4, hcl, hf⟩ := wp_b hf
      refine k_Vi0 F hK hH hA hl.1 ⟨Nat.zero_le _, Nat.zero_le _⟩ [.int (-1)] [] (ctX4_no ad xs xm xi xw xh xl xr xe xn xo xp xu xd (-1) hcl) (cwV 1 hts gX4_drives_X4_no rfl rfl rfl hdVX4_no ⟨Nat.le_of_ble_eq_true rfl, Nat.le_of_ble_eq_true rfl⟩) dX4_drives_30 0 rfl rfl rfl rfl rfl (Nat.le_of_ble_eq_true rfl) rfl (fun H locs hH => ?_)
      have hH : Hs D A s.heap (wMd cI ad xs xm xi xw xh xl xr x4.2 xn xo xp xu xd) H locs := hH
      refine W.eq (g2 := F0 m 33 ls [.int x4.1]) rfl ?_
      have hrs := wp_s hf
      subst hrs
      exact RET H locs ls 33 dX4_drives_33 rfl hH
    · have hf := wp_f hc hf
      refine lv_aload_n hx hb dX4_drives_15 rfl (lv_at hl 0 rfl) ?_
      refine lv_iload_n hx hb dX4_drives_16 rfl (lv_at hl 1 rfl) ?_
      refine lv_iconst (v := 2) hx hb dX4_drives_17 (by decide) ?_
      obtain ⟨x5, hcl, hf⟩ := wp_b hf
      refine k_Si F hK hH hA hl.1 ⟨Nat.zero_le _, Nat.zero_le _⟩ [] [.int v1, .int 2] [.ref (ad 0)] (ctX4_of v1 2 hcl) (va_cwS 2 hts gX4_drives_X4_of rfl rfl rfl hdSX4_of ⟨Nat.le_of_ble_eq_true rfl, Nat.le_of_ble_eq_true rfl⟩) dX4_drives_18 rfl rfl (Nat.le_of_ble_eq_true rfl) rfl rfl (by decide) (fun H locs hH => ?_)
      have hH : Hs D A s.heap (wMd cI ad xs xm xi xw xh xl xr xe xn xo xp xu xd) H locs := hH
      refine lv_iload_n hx hb dX4_drives_21 rfl (lv_at hl 2 rfl) ?_
      obtain ⟨x6, hcl, hf⟩ := wp_b hf
      refine k_Vi0 F hK hH hA hl.1 ⟨Nat.zero_le _, Nat.zero_le _⟩ [.int x5, .int v2] [] (ctX4_sets ad xs xm xi xw xh xl xr xe xn xo xp xu xd x5 v2 hcl) (cwV 2 hts gX4_drives_X4_sets rfl rfl rfl hdVX4_sets ⟨Nat.le_of_ble_eq_true rfl, Nat.le_of_ble_eq_true rfl⟩) dX4_drives_22 0 rfl rfl rfl rfl rfl (Nat.le_of_ble_eq_true rfl) rfl (fun H locs hH => ?_)
      have hH : Hs D A s.heap (wMd cI ad x6.2 xm xi xw xh xl xr xe xn xo xp xu xd) H locs := hH
      refine W.eq (g2 := F0 m 25 ls [.int x6.1]) rfl ?_
      refine lv_goto (tgt := 33) hx hb dX4_drives_25 (by decide) ?_
      have hrs := wp_s hf
      subst hrs
      exact RET H locs ls 33 dX4_drives_33 rfl hH

def fX4_hides (v1 : Int32) (xs : (Nat → Int32)) (xe : (Nat → Int32)) : Option (Int32 × (Nat → Int32) × (Nat → Int32)) :=
  Option.bind (fX4_isThing v1 xs) fun x1 =>
  if x1 = 0 then
    Option.bind (fX4_no (-1) xe) fun x2 =>
    some (x2.1, xs, x2.2)
  else
    some ((((upd xs (Int32.toNatClampNeg 3) ((xs (Int32.toNatClampNeg 3)) ^^^ ((1 : Int32) <<< (v1 &&& 31)))) (Int32.toNatClampNeg 3)) >>> (v1 &&& 31)) &&& 1, upd xs (Int32.toNatClampNeg 3) ((xs (Int32.toNatClampNeg 3)) ^^^ ((1 : Int32) <<< (v1 &&& 31))), xe)

def rmX4_hides : Room := { frames := 2, cells := 0, slots := 0, locals := 43 }
theorem mbX4_hides_f9 : Cond.fieldLink RX4 9 (TX4 0).1 (TX4 0).2.1 (TX4 0).2.2.1 ∈ wsX4_hides := by decide +kernel
theorem inX4_hides_X4 : ∀ w ∈ wsX40, w ∈ wsX4_hides := by decide +kernel
theorem hdVX4_hides : yX4_hides.cls = RX4 ∧ yX4_hides.cls ≠ "java/lang/invoke/MethodHandle" ∧ yX4_hides.cls ≠ "java/lang/invoke/VarHandle" ∧ (parseMethodDescriptor yX4_hides.desc).map (fun d => d.parameters.length) = some 1 := by decide +kernel
set_option maxHeartbeats 4000000 in
set_option maxRecDepth 100000 in
theorem ctX4_hides {l : Launch} {D : va_G} {cI cJ cQ : ClassId} (ad : Nat → Nat) (xs : (Nat → Int32)) (xm : (Nat → Int32)) (xi : (Nat → Int32)) (xw : (Nat → Int32)) (xh : Int32) (xl : (Nat → Int32)) (xr : (Nat → Int32)) (xe : (Nat → Int32)) (xn : Int32) (xo : Int32) (xp : Int32) (xu : (Nat → Int32)) (xd : Int32) (v1 : Int32) {res : Int32 × (Nat → Int32) × (Nat → Int32)} (h : fX4_hides v1 xs xe = some res) : CtI l D cI cJ cQ yX4_hides wsX4_hides rmX4_hides [.ref (ad 0), .int v1] (wMd cI ad xs xm xi xw xh xl xr xe xn xo xp xu xd) res.1 (wMd cI ad res.2.1 xm xi xw xh xl xr res.2.2 xn xo xp xu xd) := by
  refine ctI_of .int (cc := cX4_hides) (maxL := 2) (by decide) rfl (Nat.le_of_ble_eq_true rfl) ?_
  intro p e s m args below meth c A Q ls F hK hA RET hH hl
  obtain ⟨hx, hb, hml, hown, hts⟩ := id F
  have hl : lv_has ls 2 [(0, .ref (ad 0)), (1, .int v1)] := hl
  have hf : wpO (fX4_hides v1 xs xe) (fun v => v = res) := ⟨_, h, rfl⟩
  obtain ⟨H, eH⟩ : ∃ H, H = s.heap := ⟨_, rfl⟩
  obtain ⟨locs, eL⟩ : ∃ locs : List Loc, locs = [] := ⟨_, rfl⟩
  have hH : Hs D A s.heap (wMd cI ad xs xm xi xw xh xl xr xe xn xo xp xu xd) H locs := by rw [eH, eL]; exact hH
  rw [← eL]
  suffices hgo : W p l e rmX4_hides s m args below meth c H locs 0 0 Q (F0 m 0 ls []) by rw [eH] at hgo; exact hgo
  clear eH eL
  refine lv_aload_n hx hb dX4_hides_0 rfl (lv_at hl 0 rfl) ?_
  refine lv_iload_n hx hb dX4_hides_1 rfl (lv_at hl 1 rfl) ?_
  obtain ⟨x1, hcl, hf⟩ := wp_b hf
  refine k_Vi0 F hK hH hA hl.1 ⟨Nat.zero_le _, Nat.zero_le _⟩ [.int v1] [] (ctX4_isThing ad xs xm xi xw xh xl xr xe xn xo xp xu xd v1 hcl) (cwV 1 hts gX4_hides_X4_isThing rfl rfl rfl hdVX4_isThing ⟨Nat.le_of_ble_eq_true rfl, Nat.le_of_ble_eq_true rfl⟩) dX4_hides_2 0 rfl rfl rfl rfl rfl (Nat.le_of_ble_eq_true rfl) rfl (fun H locs hH => ?_)
  have hH : Hs D A s.heap (wMd cI ad xs xm xi xw xh xl xr xe xn xo xp xu xd) H locs := hH
  refine lv_if_ne (tgt := 14) hx hb dX4_hides_5 (by decide) (fun hc => ?_) (fun hc => ?_)
  · have hf := wp_f hc hf
    refine lv_aload_n hx hb dX4_hides_14 rfl (lv_at hl 0 rfl) ?_
    refine k_get (v := .ref (ad 1)) F hK hH 0 inX4_hides_X4 0 mbX4_hides_f9 dX4_hides_15 rfl rfl (by decide) rfl ?_
    refine lv_iconst (v := 3) hx hb dX4_hides_18 (by decide) ?_
    refine lv_dup2_11 hx hb dX4_hides_19 rfl rfl ?_
    refine k_iald (f := xs) (n := 53) F hK hH 1 dX4_hides_20 (by decide) rfl ?_
    refine lv_iconst (v := 1) hx hb dX4_hides_21 (by decide) ?_
    refine lv_iload_n hx hb dX4_hides_22 rfl (lv_at hl 1 rfl) ?_
    refine lv_ishl hx hb dX4_hides_23 ?_
    refine lv_ixor hx hb dX4_hides_24 ?_
    refine k_iast (f := xs) (n := 53) F hK hH 1 dX4_hides_25 (by decide) rfl (fun H locs hH => ?_)
    have hH : Hs D A s.heap (wMd cI ad (upd xs (Int32.toNatClampNeg 3) ((xs (Int32.toNatClampNeg 3)) ^^^ ((1 : Int32) <<< (v1 &&& 31)))) xm xi xw xh xl xr xe xn xo xp xu xd) H locs := hH
    refine lv_aload_n hx hb dX4_hides_26 rfl (lv_at hl 0 rfl) ?_
    refine k_get (v := .ref (ad 1)) F hK hH 0 inX4_hides_X4 0 mbX4_hides_f9 dX4_hides_27 rfl rfl (by decide) rfl ?_
    refine lv_iconst (v := 3) hx hb dX4_hides_30 (by decide) ?_
    refine k_iald (f := upd xs (Int32.toNatClampNeg 3) ((xs (Int32.toNatClampNeg 3)) ^^^ ((1 : Int32) <<< (v1 &&& 31)))) (n := 53) F hK hH 1 dX4_hides_31 (by decide) rfl ?_
    refine lv_iload_n hx hb dX4_hides_32 rfl (lv_at hl 1 rfl) ?_
    refine lv_ishr hx hb dX4_hides_33 ?_
    refine lv_iconst (v := 1) hx hb dX4_hides_34 (by decide) ?_
    refine lv_iand hx hb dX4_hides_35 ?_
    have hrs := wp_s hf
    subst hrs
    exact RET H locs ls 36 dX4_hides_36 rfl hH
  · have hf := wp_t hc hf
    refine lv_aload_n hx hb dX4_hides_8 rfl (lv_at hl 0 rfl) ?_
    refine lv_iconst (v := (-1)) hx hb dX4_hides_9 (by decide) ?_
    obtain ⟨x2, hcl, hf⟩ := wp_b hf
    refine k_Vi0 F hK hH hA hl.1 ⟨Nat.zero_le _, Nat.zero_le _⟩ [.int (-1)] [] (ctX4_no ad xs xm xi xw xh xl xr xe xn xo xp xu xd (-1) hcl) (cwV 1 hts gX4_hides_X4_no rfl rfl rfl hdVX4_no ⟨Nat.le_of_ble_eq_true rfl, Nat.le_of_ble_eq_true rfl⟩) dX4_hides_10 0 rfl rfl rfl rfl rfl (Nat.le_of_ble_eq_true rfl) rfl (fun H locs hH => ?_)
    have hH : Hs D A s.heap (wMd cI ad xs xm xi xw xh xl xr x2.2 xn xo xp xu xd) H locs := hH
    refine W.eq (g2 := F0 m 13 ls [.int x2.1]) rfl ?_
    have hrs := wp_s hf
    subst hrs
    exact RET H locs ls 13 dX4_hides_13 rfl hH

