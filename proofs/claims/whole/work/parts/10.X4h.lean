def fX4_seen (v1 : Int32) (v2 : Int32) (xs : (Nat → Int32)) (xe : (Nat → Int32)) : Option (Int32 × (Nat → Int32)) :=
  Option.bind (fX4_isBranch v1) fun x1 =>
  if x1 = 0 then
    Option.bind (fX4_no (-1) xe) fun x8 =>
    some (x8.1, x8.2)
  else
    if v2 = 0 then
      Option.bind (fX4_seenIn v1 xs) fun x2 =>
      some (x2, xe)
    else
      if v2 = 1 then
        Option.bind (fX4_verdictIn v1 xs) fun x3 =>
        some (x3, xe)
      else
        if v2 = 2 then
          Option.bind (fX4_decides v1 xs) fun x4 =>
          some (x4, xe)
        else
          if v2 = 3 then
            Option.bind (fX4_farthestSeen v1 xs) fun x5 =>
            some (x5, xe)
          else
            if v2 = 4 then
              Option.bind (fX4_blind v1 xs) fun x6 =>
              some (x6, xe)
            else
              Option.bind (fX4_no (-2) xe) fun x7 =>
              some (x7.1, x7.2)

def rmX4_seen : Room := { frames := 5, cells := 0, slots := 0, locals := 113 }
theorem mbX4_seen_f9 : Cond.fieldLink RX4 9 (TX4 0).1 (TX4 0).2.1 (TX4 0).2.2.1 ∈ wsX4_seen := by decide +kernel
theorem inX4_seen_X4 : ∀ w ∈ wsX40, w ∈ wsX4_seen := by decide +kernel
theorem hdVX4_seen : yX4_seen.cls = RX4 ∧ yX4_seen.cls ≠ "java/lang/invoke/MethodHandle" ∧ yX4_seen.cls ≠ "java/lang/invoke/VarHandle" ∧ (parseMethodDescriptor yX4_seen.desc).map (fun d => d.parameters.length) = some 2 := by decide +kernel
set_option maxHeartbeats 4000000 in
set_option maxRecDepth 100000 in
theorem ctX4_seen {l : Launch} {D : va_G} {cI cJ cQ : ClassId} (ad : Nat → Nat) (xs : (Nat → Int32)) (xm : (Nat → Int32)) (xi : (Nat → Int32)) (xw : (Nat → Int32)) (xh : Int32) (xl : (Nat → Int32)) (xr : (Nat → Int32)) (xe : (Nat → Int32)) (xn : Int32) (xo : Int32) (xp : Int32) (xu : (Nat → Int32)) (xd : Int32) (v1 : Int32) (v2 : Int32) {res : Int32 × (Nat → Int32)} (h : fX4_seen v1 v2 xs xe = some res) : CtI l D cI cJ cQ yX4_seen wsX4_seen rmX4_seen [.ref (ad 0), .int v1, .int v2] (wMd cI ad xs xm xi xw xh xl xr xe xn xo xp xu xd) res.1 (wMd cI ad xs xm xi xw xh xl xr res.2 xn xo xp xu xd) := by
  refine ctI_of .int (cc := cX4_seen) (maxL := 3) (by decide) rfl (Nat.le_of_ble_eq_true rfl) ?_
  intro p e s m args below meth c A Q ls F hK hA RET hH hl
  obtain ⟨hx, hb, hml, hown, hts⟩ := id F
  have hl : lv_has ls 3 [(0, .ref (ad 0)), (1, .int v1), (2, .int v2)] := hl
  have hf : wpO (fX4_seen v1 v2 xs xe) (fun v => v = res) := ⟨_, h, rfl⟩
  obtain ⟨H, eH⟩ : ∃ H, H = s.heap := ⟨_, rfl⟩
  obtain ⟨locs, eL⟩ : ∃ locs : List Loc, locs = [] := ⟨_, rfl⟩
  have hH : Hs D A s.heap (wMd cI ad xs xm xi xw xh xl xr xe xn xo xp xu xd) H locs := by rw [eH, eL]; exact hH
  rw [← eL]
  suffices hgo : W p l e rmX4_seen s m args below meth c H locs 0 0 Q (F0 m 0 ls []) by rw [eH] at hgo; exact hgo
  clear eH eL
  refine lv_iload_n hx hb dX4_seen_0 rfl (lv_at hl 1 rfl) ?_
  obtain ⟨x1, hcl, hf⟩ := wp_b hf
  refine k_Si F hK hH hA hl.1 ⟨Nat.zero_le _, Nat.zero_le _⟩ [] [.int v1] [] (ctX4_isBranch v1 hcl) (va_cwS 1 hts gX4_seen_X4_isBranch rfl rfl rfl hdSX4_isBranch ⟨Nat.le_of_ble_eq_true rfl, Nat.le_of_ble_eq_true rfl⟩) dX4_seen_1 rfl rfl (Nat.le_of_ble_eq_true rfl) rfl rfl (by decide) (fun H locs hH => ?_)
  have hH : Hs D A s.heap (wMd cI ad xs xm xi xw xh xl xr xe xn xo xp xu xd) H locs := hH
  refine lv_if_ne (tgt := 13) hx hb dX4_seen_4 (by decide) (fun hc => ?_) (fun hc => ?_)
  · have hf := wp_f hc hf
    refine lv_iload_n hx hb dX4_seen_13 rfl (lv_at hl 2 rfl) ?_
    by_cases hc0 : v2 = 0
    · have hf := wp_t hc0 hf
      refine lv_tableIn (tgt := 48) hx hb dX4_seen_14 (by rw [hc0]; decide) (by rw [hc0]; decide) (by rw [hc0]; try rfl) (by decide) ?_
      refine lv_aload_n hx hb dX4_seen_48 rfl (lv_at hl 0 rfl) ?_
      refine k_get (v := .ref (ad 1)) F hK hH 0 inX4_seen_X4 0 mbX4_seen_f9 dX4_seen_49 rfl rfl (by decide) rfl ?_
      refine lv_iload_n hx hb dX4_seen_52 rfl (lv_at hl 1 rfl) ?_
      obtain ⟨x2, hcl, hf⟩ := wp_b hf
      refine k_Si F hK hH hA hl.1 ⟨Nat.zero_le _, Nat.zero_le _⟩ [1] [.ref (ad 1), .int v1] [] (ctX4_seenIn (ad 1) xs v1 hcl) (va_cwS 2 hts gX4_seen_X4_seenIn rfl rfl rfl hdSX4_seenIn ⟨Nat.le_of_ble_eq_true rfl, Nat.le_of_ble_eq_true rfl⟩) dX4_seen_53 rfl rfl (Nat.le_of_ble_eq_true rfl) rfl rfl (by decide) (fun H locs hH => ?_)
      have hH : Hs D A s.heap (wMd cI ad xs xm xi xw xh xl xr xe xn xo xp xu xd) H locs := hH
      have hrs := wp_s hf
      subst hrs
      exact RET H locs ls 56 dX4_seen_56 rfl hH
    · have hf := wp_f hc0 hf
      by_cases hc1 : v2 = 1
      · have hf := wp_t hc1 hf
        refine lv_tableIn (tgt := 57) hx hb dX4_seen_14 (by rw [hc1]; decide) (by rw [hc1]; decide) (by rw [hc1]; try rfl) (by decide) ?_
        refine lv_aload_n hx hb dX4_seen_57 rfl (lv_at hl 0 rfl) ?_
        refine k_get (v := .ref (ad 1)) F hK hH 0 inX4_seen_X4 0 mbX4_seen_f9 dX4_seen_58 rfl rfl (by decide) rfl ?_
        refine lv_iload_n hx hb dX4_seen_61 rfl (lv_at hl 1 rfl) ?_
        obtain ⟨x3, hcl, hf⟩ := wp_b hf
        refine k_Si F hK hH hA hl.1 ⟨Nat.zero_le _, Nat.zero_le _⟩ [1] [.ref (ad 1), .int v1] [] (ctX4_verdictIn (ad 1) xs v1 hcl) (va_cwS 2 hts gX4_seen_X4_verdictIn rfl rfl rfl hdSX4_verdictIn ⟨Nat.le_of_ble_eq_true rfl, Nat.le_of_ble_eq_true rfl⟩) dX4_seen_62 rfl rfl (Nat.le_of_ble_eq_true rfl) rfl rfl (by decide) (fun H locs hH => ?_)
        have hH : Hs D A s.heap (wMd cI ad xs xm xi xw xh xl xr xe xn xo xp xu xd) H locs := hH
        have hrs := wp_s hf
        subst hrs
        exact RET H locs ls 65 dX4_seen_65 rfl hH
      · have hf := wp_f hc1 hf
        by_cases hc2 : v2 = 2
        · have hf := wp_t hc2 hf
          refine lv_tableIn (tgt := 66) hx hb dX4_seen_14 (by rw [hc2]; decide) (by rw [hc2]; decide) (by rw [hc2]; try rfl) (by decide) ?_
          refine lv_aload_n hx hb dX4_seen_66 rfl (lv_at hl 0 rfl) ?_
          refine k_get (v := .ref (ad 1)) F hK hH 0 inX4_seen_X4 0 mbX4_seen_f9 dX4_seen_67 rfl rfl (by decide) rfl ?_
          refine lv_iload_n hx hb dX4_seen_70 rfl (lv_at hl 1 rfl) ?_
          obtain ⟨x4, hcl, hf⟩ := wp_b hf
          refine k_Si F hK hH hA hl.1 ⟨Nat.zero_le _, Nat.zero_le _⟩ [1] [.ref (ad 1), .int v1] [] (ctX4_decides (ad 1) xs v1 hcl) (va_cwS 2 hts gX4_seen_X4_decides rfl rfl rfl hdSX4_decides ⟨Nat.le_of_ble_eq_true rfl, Nat.le_of_ble_eq_true rfl⟩) dX4_seen_71 rfl rfl (Nat.le_of_ble_eq_true rfl) rfl rfl (by decide) (fun H locs hH => ?_)
          have hH : Hs D A s.heap (wMd cI ad xs xm xi xw xh xl xr xe xn xo xp xu xd) H locs := hH
          have hrs := wp_s hf
          subst hrs
          exact RET H locs ls 74 dX4_seen_74 rfl hH
        · have hf := wp_f hc2 hf
          by_cases hc3 : v2 = 3
          · have hf := wp_t hc3 hf
            refine lv_tableIn (tgt := 75) hx hb dX4_seen_14 (by rw [hc3]; decide) (by rw [hc3]; decide) (by rw [hc3]; try rfl) (by decide) ?_
            refine lv_aload_n hx hb dX4_seen_75 rfl (lv_at hl 0 rfl) ?_
            refine lv_iload_n hx hb dX4_seen_76 rfl (lv_at hl 1 rfl) ?_
            obtain ⟨x5, hcl, hf⟩ := wp_b hf
            refine k_Vi0 F hK hH hA hl.1 ⟨Nat.zero_le _, Nat.zero_le _⟩ [.int v1] [] (ctX4_farthestSeen ad xs xm xi xw xh xl xr xe xn xo xp xu xd v1 hcl) (cwV 1 hts gX4_seen_X4_farthestSeen rfl rfl rfl hdVX4_farthestSeen ⟨Nat.le_of_ble_eq_true rfl, Nat.le_of_ble_eq_true rfl⟩) dX4_seen_77 0 rfl rfl rfl rfl rfl (Nat.le_of_ble_eq_true rfl) rfl (fun H locs hH => ?_)
            have hH : Hs D A s.heap (wMd cI ad xs xm xi xw xh xl xr xe xn xo xp xu xd) H locs := hH
            have hrs := wp_s hf
            subst hrs
            exact RET H locs ls 80 dX4_seen_80 rfl hH
          · have hf := wp_f hc3 hf
            by_cases hc4 : v2 = 4
            · have hf := wp_t hc4 hf
              refine lv_tableIn (tgt := 81) hx hb dX4_seen_14 (by rw [hc4]; decide) (by rw [hc4]; decide) (by rw [hc4]; try rfl) (by decide) ?_
              refine lv_aload_n hx hb dX4_seen_81 rfl (lv_at hl 0 rfl) ?_
              refine lv_iload_n hx hb dX4_seen_82 rfl (lv_at hl 1 rfl) ?_
              obtain ⟨x6, hcl, hf⟩ := wp_b hf
              refine k_Vi0 F hK hH hA hl.1 ⟨Nat.zero_le _, Nat.zero_le _⟩ [.int v1] [] (ctX4_blind ad xs xm xi xw xh xl xr xe xn xo xp xu xd v1 hcl) (cwV 1 hts gX4_seen_X4_blind rfl rfl rfl hdVX4_blind ⟨Nat.le_of_ble_eq_true rfl, Nat.le_of_ble_eq_true rfl⟩) dX4_seen_83 0 rfl rfl rfl rfl rfl (Nat.le_of_ble_eq_true rfl) rfl (fun H locs hH => ?_)
              have hH : Hs D A s.heap (wMd cI ad xs xm xi xw xh xl xr xe xn xo xp xu xd) H locs := hH
              have hrs := wp_s hf
              subst hrs
              exact RET H locs ls 86 dX4_seen_86 rfl hH
            · have hf := wp_f hc4 hf
              have hs0 := sw_ne hc0 (show (0 : Int32).toInt = 0 from rfl)
              have hs1 := sw_ne hc1 (show (1 : Int32).toInt = 1 from rfl)
              have hs2 := sw_ne hc2 (show (2 : Int32).toInt = 2 from rfl)
              have hs3 := sw_ne hc3 (show (3 : Int32).toInt = 3 from rfl)
              have hs4 := sw_ne hc4 (show (4 : Int32).toInt = 4 from rfl)
              refine lv_tableOut (tgt := 87) hx hb dX4_seen_14 (by omega) (by decide) ?_
              refine lv_aload_n hx hb dX4_seen_87 rfl (lv_at hl 0 rfl) ?_
              refine lv_bipush (v := (-2)) hx hb dX4_seen_88 (by decide) ?_
              obtain ⟨x7, hcl, hf⟩ := wp_b hf
              refine k_Vi0 F hK hH hA hl.1 ⟨Nat.zero_le _, Nat.zero_le _⟩ [.int (-2)] [] (ctX4_no ad xs xm xi xw xh xl xr xe xn xo xp xu xd (-2) hcl) (cwV 1 hts gX4_seen_X4_no rfl rfl rfl hdVX4_no ⟨Nat.le_of_ble_eq_true rfl, Nat.le_of_ble_eq_true rfl⟩) dX4_seen_90 0 rfl rfl rfl rfl rfl (Nat.le_of_ble_eq_true rfl) rfl (fun H locs hH => ?_)
              have hH : Hs D A s.heap (wMd cI ad xs xm xi xw xh xl xr x7.2 xn xo xp xu xd) H locs := hH
              refine W.eq (g2 := F0 m 93 ls [.int x7.1]) rfl ?_
              have hrs := wp_s hf
              subst hrs
              exact RET H locs ls 93 dX4_seen_93 rfl hH
  · have hf := wp_t hc hf
    refine lv_aload_n hx hb dX4_seen_7 rfl (lv_at hl 0 rfl) ?_
    refine lv_iconst (v := (-1)) hx hb dX4_seen_8 (by decide) ?_
    obtain ⟨x8, hcl, hf⟩ := wp_b hf
    refine k_Vi0 F hK hH hA hl.1 ⟨Nat.zero_le _, Nat.zero_le _⟩ [.int (-1)] [] (ctX4_no ad xs xm xi xw xh xl xr xe xn xo xp xu xd (-1) hcl) (cwV 1 hts gX4_seen_X4_no rfl rfl rfl hdVX4_no ⟨Nat.le_of_ble_eq_true rfl, Nat.le_of_ble_eq_true rfl⟩) dX4_seen_9 0 rfl rfl rfl rfl rfl (Nat.le_of_ble_eq_true rfl) rfl (fun H locs hH => ?_)
    have hH : Hs D A s.heap (wMd cI ad xs xm xi xw xh xl xr x8.2 xn xo xp xu xd) H locs := hH
    refine W.eq (g2 := F0 m 12 ls [.int x8.1]) rfl ?_
    have hrs := wp_s hf
    subst hrs
    exact RET H locs ls 12 dX4_seen_12 rfl hH

def fX4_takes (v1 : Int32) (xs : (Nat → Int32)) (xm : (Nat → Int32)) : Option ((Nat → Int32)) :=
  Option.bind (fX4_copies xs xm) fun x1 =>
  Option.bind (fX4_hoursOn v1 x1) fun x2 =>
  some x2

def rmX4_takes : Room := { frames := 3, cells := 0, slots := 0, locals := 65 }
theorem mbX4_takes_f9 : Cond.fieldLink RX4 9 (TX4 0).1 (TX4 0).2.1 (TX4 0).2.2.1 ∈ wsX4_takes := by decide +kernel
theorem inX4_takes_X4 : ∀ w ∈ wsX40, w ∈ wsX4_takes := by decide +kernel
theorem mbX4_takes_f13 : Cond.fieldLink RX4 13 (TX4 1).1 (TX4 1).2.1 (TX4 1).2.2.1 ∈ wsX4_takes := by decide +kernel
theorem hdVX4_takes : yX4_takes.cls = RX4 ∧ yX4_takes.cls ≠ "java/lang/invoke/MethodHandle" ∧ yX4_takes.cls ≠ "java/lang/invoke/VarHandle" ∧ (parseMethodDescriptor yX4_takes.desc).map (fun d => d.parameters.length) = some 1 := by decide +kernel
set_option maxHeartbeats 4000000 in
set_option maxRecDepth 100000 in
theorem ctX4_takes {l : Launch} {D : va_G} {cI cJ cQ : ClassId} (ad : Nat → Nat) (xs : (Nat → Int32)) (xm : (Nat → Int32)) (xi : (Nat → Int32)) (xw : (Nat → Int32)) (xh : Int32) (xl : (Nat → Int32)) (xr : (Nat → Int32)) (xe : (Nat → Int32)) (xn : Int32) (xo : Int32) (xp : Int32) (xu : (Nat → Int32)) (xd : Int32) (v1 : Int32) {res : (Nat → Int32)} (h : fX4_takes v1 xs xm = some res) : CtV l D cI cJ cQ yX4_takes wsX4_takes rmX4_takes [.ref (ad 0), .int v1] (wMd cI ad xs xm xi xw xh xl xr xe xn xo xp xu xd) (wMd cI ad xs res xi xw xh xl xr xe xn xo xp xu xd) := by
  refine ctV_of (cc := cX4_takes) (maxL := 2) (by decide) rfl (Nat.le_of_ble_eq_true rfl) ?_
  intro p e s m args below meth c A Q ls F hK hA RET hH hl
  obtain ⟨hx, hb, hml, hown, hts⟩ := id F
  have hl : lv_has ls 2 [(0, .ref (ad 0)), (1, .int v1)] := hl
  have hf : wpO (fX4_takes v1 xs xm) (fun v => v = res) := ⟨_, h, rfl⟩
  obtain ⟨H, eH⟩ : ∃ H, H = s.heap := ⟨_, rfl⟩
  obtain ⟨locs, eL⟩ : ∃ locs : List Loc, locs = [] := ⟨_, rfl⟩
  have hH : Hs D A s.heap (wMd cI ad xs xm xi xw xh xl xr xe xn xo xp xu xd) H locs := by rw [eH, eL]; exact hH
  rw [← eL]
  suffices hgo : W p l e rmX4_takes s m args below meth c H locs 0 0 Q (F0 m 0 ls []) by rw [eH] at hgo; exact hgo
  clear eH eL
  refine lv_aload_n hx hb dX4_takes_0 rfl (lv_at hl 0 rfl) ?_
  refine k_get (v := .ref (ad 1)) F hK hH 0 inX4_takes_X4 0 mbX4_takes_f9 dX4_takes_1 rfl rfl (by decide) rfl ?_
  refine lv_aload_n hx hb dX4_takes_4 rfl (lv_at hl 0 rfl) ?_
  refine k_get (v := .ref (ad 2)) F hK hH 0 inX4_takes_X4 1 mbX4_takes_f13 dX4_takes_5 rfl rfl (by decide) rfl ?_
  obtain ⟨x1, hcl, hf⟩ := wp_b hf
  refine k_Sv F hK hH hA hl.1 ⟨Nat.zero_le _, Nat.zero_le _⟩ [1, 2] [.ref (ad 1), .ref (ad 2)] [] (ctX4_copies (ad 1) (ad 2) xs xm hcl) (va_cwS 2 hts gX4_takes_X4_copies rfl rfl rfl hdSX4_copies ⟨Nat.le_of_ble_eq_true rfl, Nat.le_of_ble_eq_true rfl⟩) dX4_takes_8 rfl rfl (Nat.le_of_ble_eq_true rfl) rfl rfl (by decide) (fun H locs hH => ?_)
  have hH : Hs D A s.heap (wMd cI ad xs x1 xi xw xh xl xr xe xn xo xp xu xd) H locs := hH
  refine lv_aload_n hx hb dX4_takes_11 rfl (lv_at hl 0 rfl) ?_
  refine k_get (v := .ref (ad 2)) F hK hH 0 inX4_takes_X4 1 mbX4_takes_f13 dX4_takes_12 rfl rfl (by decide) rfl ?_
  refine lv_iload_n hx hb dX4_takes_15 rfl (lv_at hl 1 rfl) ?_
  obtain ⟨x2, hcl, hf⟩ := wp_b hf
  refine k_Sv F hK hH hA hl.1 ⟨Nat.zero_le _, Nat.zero_le _⟩ [2] [.ref (ad 2), .int v1] [] (ctX4_hoursOn (ad 2) x1 v1 hcl) (va_cwS 2 hts gX4_takes_X4_hoursOn rfl rfl rfl hdSX4_hoursOn ⟨Nat.le_of_ble_eq_true rfl, Nat.le_of_ble_eq_true rfl⟩) dX4_takes_16 rfl rfl (Nat.le_of_ble_eq_true rfl) rfl rfl (by decide) (fun H locs hH => ?_)
  have hH : Hs D A s.heap (wMd cI ad xs x2 xi xw xh xl xr xe xn xo xp xu xd) H locs := hH
  have hrs := wp_s hf
  subst hrs
  exact RET H locs ls 19 dX4_takes_19 hH

def fX4_thingThen (v1 : Int32) (v2 : Int32) (xs : (Nat → Int32)) (xm : (Nat → Int32)) (xe : (Nat → Int32)) : Option (Int32 × (Nat → Int32) × (Nat → Int32)) :=
  Option.bind (fX4_isThing v1 xs) fun x1 =>
  Option.bind (if x1 = 0 then
      some (-1)
    else
      Option.bind (fX4_wrongBy v2 0 60) fun x3 =>
      some x3) fun (t2 : Int32) =>
  if t2 = 0 then
    Option.bind (fX4_takes v2 xs xm) fun x4 =>
    Option.bind (fX4_of v1 2) fun x5 =>
    if ob x5 53 then none else
    some (x4 (Int32.toNatClampNeg x5), x4, xe)
  else
    Option.bind (fX4_no t2 xe) fun x6 =>
    some (x6.1, xm, x6.2)

def rmX4_thingThen : Room := { frames := 4, cells := 0, slots := 0, locals := 86 }
theorem mbX4_thingThen_f13 : Cond.fieldLink RX4 13 (TX4 1).1 (TX4 1).2.1 (TX4 1).2.2.1 ∈ wsX4_thingThen := by decide +kernel
theorem inX4_thingThen_X4 : ∀ w ∈ wsX40, w ∈ wsX4_thingThen := by decide +kernel
theorem hdVX4_thingThen : yX4_thingThen.cls = RX4 ∧ yX4_thingThen.cls ≠ "java/lang/invoke/MethodHandle" ∧ yX4_thingThen.cls ≠ "java/lang/invoke/VarHandle" ∧ (parseMethodDescriptor yX4_thingThen.desc).map (fun d => d.parameters.length) = some 2 := by decide +kernel
set_option maxHeartbeats 4000000 in
set_option maxRecDepth 100000 in
theorem ctX4_thingThen {l : Launch} {D : va_G} {cI cJ cQ : ClassId} (ad : Nat → Nat) (xs : (Nat → Int32)) (xm : (Nat → Int32)) (xi : (Nat → Int32)) (xw : (Nat → Int32)) (xh : Int32) (xl : (Nat → Int32)) (xr : (Nat → Int32)) (xe : (Nat → Int32)) (xn : Int32) (xo : Int32) (xp : Int32) (xu : (Nat → Int32)) (xd : Int32) (v1 : Int32) (v2 : Int32) {res : Int32 × (Nat → Int32) × (Nat → Int32)} (h : fX4_thingThen v1 v2 xs xm xe = some res) : CtI l D cI cJ cQ yX4_thingThen wsX4_thingThen rmX4_thingThen [.ref (ad 0), .int v1, .int v2] (wMd cI ad xs xm xi xw xh xl xr xe xn xo xp xu xd) res.1 (wMd cI ad xs res.2.1 xi xw xh xl xr res.2.2 xn xo xp xu xd) := by
  refine ctI_of .int (cc := cX4_thingThen) (maxL := 4) (by decide) rfl (Nat.le_of_ble_eq_true rfl) ?_
  intro p e s m args below meth c A Q ls F hK hA RET hH hl
  obtain ⟨hx, hb, hml, hown, hts⟩ := id F
  have hl : lv_has ls 4 [(0, .ref (ad 0)), (1, .int v1), (2, .int v2)] := hl
  have hf : wpO (fX4_thingThen v1 v2 xs xm xe) (fun v => v = res) := ⟨_, h, rfl⟩
  obtain ⟨H, eH⟩ : ∃ H, H = s.heap := ⟨_, rfl⟩
  obtain ⟨locs, eL⟩ : ∃ locs : List Loc, locs = [] := ⟨_, rfl⟩
  have hH : Hs D A s.heap (wMd cI ad xs xm xi xw xh xl xr xe xn xo xp xu xd) H locs := by rw [eH, eL]; exact hH
  rw [← eL]
  suffices hgo : W p l e rmX4_thingThen s m args below meth c H locs 0 0 Q (F0 m 0 ls []) by rw [eH] at hgo; exact hgo
  clear eH eL
  refine lv_aload_n hx hb dX4_thingThen_0 rfl (lv_at hl 0 rfl) ?_
  refine lv_iload_n hx hb dX4_thingThen_1 rfl (lv_at hl 1 rfl) ?_
  obtain ⟨x1, hcl, hf⟩ := wp_b hf
  refine k_Vi0 F hK hH hA hl.1 ⟨Nat.zero_le _, Nat.zero_le _⟩ [.int v1] [] (ctX4_isThing ad xs xm xi xw xh xl xr xe xn xo xp xu xd v1 hcl) (cwV 1 hts gX4_thingThen_X4_isThing rfl rfl rfl hdVX4_isThing ⟨Nat.le_of_ble_eq_true rfl, Nat.le_of_ble_eq_true rfl⟩) dX4_thingThen_2 0 rfl rfl rfl rfl rfl (Nat.le_of_ble_eq_true rfl) rfl (fun H locs hH => ?_)
  have hH : Hs D A s.heap (wMd cI ad xs xm xi xw xh xl xr xe xn xo xp xu xd) H locs := hH
  refine join_ (α := Int32) (fun Φ => ∀ (t2 : Int32) (H : Heap) (locs : List Loc) (ls : Array Slot), Φ t2 → Hs D A s.heap (wMd cI ad xs xm xi xw xh xl xr xe xn xo xp xu xd) H locs → lv_has ls 4 [(0, .ref (ad 0)), (1, .int v1), (2, .int v2)] → W p l e rmX4_thingThen s m args below meth c H locs 0 0 Q (F0 m 19 ls [.int t2])) (wp_bb hf) ?_ ?_
  · intro t2 H locs ls hf hH hl
    refine lv_istore_n (lv' := [(3, .int t2), (0, .ref (ad 0)), (1, .int v1), (2, .int v2)]) hx hb dX4_thingThen_19 rfl hl (by decide) rfl (fun ls hl => ?_)
    refine lv_iload_n hx hb dX4_thingThen_20 rfl (lv_at hl 0 rfl) ?_
    refine lv_if_eq (tgt := 30) hx hb dX4_thingThen_21 (by decide) (fun hc => ?_) (fun hc => ?_)
    · have hf := wp_t hc hf
      refine lv_aload_n hx hb dX4_thingThen_30 rfl (lv_at hl 1 rfl) ?_
      refine lv_iload_n hx hb dX4_thingThen_31 rfl (lv_at hl 3 rfl) ?_
      obtain ⟨x4, hcl, hf⟩ := wp_b hf
      refine k_Vv0 F hK hH hA hl.1 ⟨Nat.zero_le _, Nat.zero_le _⟩ [.int v2] [] (ctX4_takes ad xs xm xi xw xh xl xr xe xn xo xp xu xd v2 hcl) (cwV 1 hts gX4_thingThen_X4_takes rfl rfl rfl hdVX4_takes ⟨Nat.le_of_ble_eq_true rfl, Nat.le_of_ble_eq_true rfl⟩) dX4_thingThen_32 0 rfl rfl rfl rfl rfl (Nat.le_of_ble_eq_true rfl) rfl (fun H locs hH => ?_)
      have hH : Hs D A s.heap (wMd cI ad xs x4 xi xw xh xl xr xe xn xo xp xu xd) H locs := hH
      refine lv_aload_n hx hb dX4_thingThen_35 rfl (lv_at hl 1 rfl) ?_
      refine k_get (v := .ref (ad 2)) F hK hH 0 inX4_thingThen_X4 1 mbX4_thingThen_f13 dX4_thingThen_36 rfl rfl (by decide) rfl ?_
      refine lv_iload_n hx hb dX4_thingThen_39 rfl (lv_at hl 2 rfl) ?_
      refine lv_iconst (v := 2) hx hb dX4_thingThen_40 (by decide) ?_
      obtain ⟨x5, hcl, hf⟩ := wp_b hf
      refine k_Si F hK hH hA hl.1 ⟨Nat.zero_le _, Nat.zero_le _⟩ [] [.int v1, .int 2] [.ref (ad 2)] (ctX4_of v1 2 hcl) (va_cwS 2 hts gX4_thingThen_X4_of rfl rfl rfl hdSX4_of ⟨Nat.le_of_ble_eq_true rfl, Nat.le_of_ble_eq_true rfl⟩) dX4_thingThen_41 rfl rfl (Nat.le_of_ble_eq_true rfl) rfl rfl (by decide) (fun H locs hH => ?_)
      have hH : Hs D A s.heap (wMd cI ad xs x4 xi xw xh xl xr xe xn xo xp xu xd) H locs := hH
      obtain ⟨hi, hf⟩ := wp_n hf
      refine k_iald (f := x4) (n := 53) F hK hH 2 dX4_thingThen_44 hi rfl ?_
      have hrs := wp_s hf
      subst hrs
      exact RET H locs ls 45 dX4_thingThen_45 rfl hH
    · have hf := wp_f hc hf
      refine lv_aload_n hx hb dX4_thingThen_24 rfl (lv_at hl 1 rfl) ?_
      refine lv_iload_n hx hb dX4_thingThen_25 rfl (lv_at hl 0 rfl) ?_
      obtain ⟨x6, hcl, hf⟩ := wp_b hf
      refine k_Vi0 F hK hH hA hl.1 ⟨Nat.zero_le _, Nat.zero_le _⟩ [.int t2] [] (ctX4_no ad xs xm xi xw xh xl xr xe xn xo xp xu xd t2 hcl) (cwV 1 hts gX4_thingThen_X4_no rfl rfl rfl hdVX4_no ⟨Nat.le_of_ble_eq_true rfl, Nat.le_of_ble_eq_true rfl⟩) dX4_thingThen_26 0 rfl rfl rfl rfl rfl (Nat.le_of_ble_eq_true rfl) rfl (fun H locs hH => ?_)
      have hH : Hs D A s.heap (wMd cI ad xs xm xi xw xh xl xr x6.2 xn xo xp xu xd) H locs := hH
      refine W.eq (g2 := F0 m 29 ls [.int x6.1]) rfl ?_
      have hrs := wp_s hf
      subst hrs
      exact RET H locs ls 29 dX4_thingThen_29 rfl hH
  · intro Φ JJ hf
    refine lv_if_eq (tgt := 18) hx hb dX4_thingThen_5 (by decide) (fun hc => ?_) (fun hc => ?_)
    · have hf := wp_t hc hf
      refine lv_iconst (v := (-1)) hx hb dX4_thingThen_18 (by decide) ?_
      have hw := wp_s hf
      exact JJ _ _ _ _ hw hH (lv_sub hl [0, 1, 2] rfl)
    · have hf := wp_f hc hf
      refine lv_iload_n hx hb dX4_thingThen_8 rfl (lv_at hl 2 rfl) ?_
      refine lv_iconst (v := 0) hx hb dX4_thingThen_9 (by decide) ?_
      refine lv_bipush (v := 60) hx hb dX4_thingThen_10 (by decide) ?_
      obtain ⟨x3, hcl, hf⟩ := wp_b hf
      refine k_Si F hK hH hA hl.1 ⟨Nat.zero_le _, Nat.zero_le _⟩ [] [.int v2, .int 0, .int 60] [] (ctX4_wrongBy v2 0 60 hcl) (va_cwS 3 hts gX4_thingThen_X4_wrongBy rfl rfl rfl hdSX4_wrongBy ⟨Nat.le_of_ble_eq_true rfl, Nat.le_of_ble_eq_true rfl⟩) dX4_thingThen_12 rfl rfl (Nat.le_of_ble_eq_true rfl) rfl rfl (by decide) (fun H locs hH => ?_)
      have hH : Hs D A s.heap (wMd cI ad xs xm xi xw xh xl xr xe xn xo xp xu xd) H locs := hH
      refine lv_goto (tgt := 19) hx hb dX4_thingThen_15 (by decide) ?_
      have hw := wp_s hf
      exact JJ _ _ _ _ hw hH (lv_sub hl [0, 1, 2] rfl)

def fX4_seenThen (v1 : Int32) (v2 : Int32) (v3 : Int32) (xs : (Nat → Int32)) (xm : (Nat → Int32)) (xe : (Nat → Int32)) : Option (Int32 × (Nat → Int32) × (Nat → Int32)) :=
  Option.bind (fX4_isBranch v1) fun x1 =>
  Option.bind (if x1 = 0 then
      some (-1)
    else
      Option.bind (fX4_wrongBy v2 0 60) fun x3 =>
      some x3) fun (t2 : Int32) =>
  Option.bind (if t2 = 0 then
      Option.bind (fX4_isIn v3 0 1) fun x5 =>
      if x5 = 0 then
        some (-2)
      else
        some t2
    else
      some t2) fun (t4 : Int32) =>
  if t4 = 0 then
    Option.bind (fX4_takes v2 xs xm) fun x6 =>
    if v3 = 0 then
      Option.bind (fX4_seenIn v1 x6) fun x8 =>
      some (x8, x6, xe)
    else
      Option.bind (fX4_verdictIn v1 x6) fun x7 =>
      some (x7, x6, xe)
  else
    Option.bind (fX4_no t4 xe) fun x9 =>
    some (x9.1, xm, x9.2)

def rmX4_seenThen : Room := { frames := 5, cells := 0, slots := 0, locals := 113 }
theorem mbX4_seenThen_f13 : Cond.fieldLink RX4 13 (TX4 1).1 (TX4 1).2.1 (TX4 1).2.2.1 ∈ wsX4_seenThen := by decide +kernel
theorem inX4_seenThen_X4 : ∀ w ∈ wsX40, w ∈ wsX4_seenThen := by decide +kernel
theorem hdVX4_seenThen : yX4_seenThen.cls = RX4 ∧ yX4_seenThen.cls ≠ "java/lang/invoke/MethodHandle" ∧ yX4_seenThen.cls ≠ "java/lang/invoke/VarHandle" ∧ (parseMethodDescriptor yX4_seenThen.desc).map (fun d => d.parameters.length) = some 3 := by decide +kernel
set_option maxHeartbeats 4000000 in
set_option maxRecDepth 100000 in
theorem ctX4_seenThen {l : Launch} {D : va_G} {cI cJ cQ : ClassId} (ad : Nat → Nat) (xs : (Nat → Int32)) (xm : (Nat → Int32)) (xi : (Nat → Int32)) (xw : (Nat → Int32)) (xh : Int32) (xl : (Nat → Int32)) (xr : (Nat → Int32)) (xe : (Nat → Int32)) (xn : Int32) (xo : Int32) (xp : Int32) (xu : (Nat → Int32)) (xd : Int32) (v1 : Int32) (v2 : Int32) (v3 : Int32) {res : Int32 × (Nat → Int32) × (Nat → Int32)} (h : fX4_seenThen v1 v2 v3 xs xm xe = some res) : CtI l D cI cJ cQ yX4_seenThen wsX4_seenThen rmX4_seenThen [.ref (ad 0), .int v1, .int v2, .int v3] (wMd cI ad xs xm xi xw xh xl xr xe xn xo xp xu xd) res.1 (wMd cI ad xs res.2.1 xi xw xh xl xr res.2.2 xn xo xp xu xd) := by
  refine ctI_of .int (cc := cX4_seenThen) (maxL := 5) (by decide) rfl (Nat.le_of_ble_eq_true rfl) ?_
  intro p e s m args below meth c A Q ls F hK hA RET hH hl
  obtain ⟨hx, hb, hml, hown, hts⟩ := id F
  have hl : lv_has ls 5 [(0, .ref (ad 0)), (1, .int v1), (2, .int v2), (3, .int v3)] := hl
  have hf : wpO (fX4_seenThen v1 v2 v3 xs xm xe) (fun v => v = res) := ⟨_, h, rfl⟩
  obtain ⟨H, eH⟩ : ∃ H, H = s.heap := ⟨_, rfl⟩
  obtain ⟨locs, eL⟩ : ∃ locs : List Loc, locs = [] := ⟨_, rfl⟩
  have hH : Hs D A s.heap (wMd cI ad xs xm xi xw xh xl xr xe xn xo xp xu xd) H locs := by rw [eH, eL]; exact hH
  rw [← eL]
  suffices hgo : W p l e rmX4_seenThen s m args below meth c H locs 0 0 Q (F0 m 0 ls []) by rw [eH] at hgo; exact hgo
  clear eH eL
  refine lv_iload_n hx hb dX4_seenThen_0 rfl (lv_at hl 1 rfl) ?_
  obtain ⟨x1, hcl, hf⟩ := wp_b hf
  refine k_Si F hK hH hA hl.1 ⟨Nat.zero_le _, Nat.zero_le _⟩ [] [.int v1] [] (ctX4_isBranch v1 hcl) (va_cwS 1 hts gX4_seenThen_X4_isBranch rfl rfl rfl hdSX4_isBranch ⟨Nat.le_of_ble_eq_true rfl, Nat.le_of_ble_eq_true rfl⟩) dX4_seenThen_1 rfl rfl (Nat.le_of_ble_eq_true rfl) rfl rfl (by decide) (fun H locs hH => ?_)
  have hH : Hs D A s.heap (wMd cI ad xs xm xi xw xh xl xr xe xn xo xp xu xd) H locs := hH
  refine join_ (α := Int32) (fun Φ => ∀ (t2 : Int32) (H : Heap) (locs : List Loc) (ls : Array Slot), Φ t2 → Hs D A s.heap (wMd cI ad xs xm xi xw xh xl xr xe xn xo xp xu xd) H locs → lv_has ls 5 [(0, .ref (ad 0)), (1, .int v1), (2, .int v2), (3, .int v3)] → W p l e rmX4_seenThen s m args below meth c H locs 0 0 Q (F0 m 18 ls [.int t2])) (wp_bb hf) ?_ ?_
  · intro t2 H locs ls hf hH hl
    refine lv_istore (lv' := [(4, .int t2), (0, .ref (ad 0)), (1, .int v1), (2, .int v2), (3, .int v3)]) hx hb dX4_seenThen_18 hl (by decide) rfl (fun ls hl => ?_)
    refine lv_iload hx hb dX4_seenThen_20 (lv_at hl 0 rfl) ?_
    refine join_ (α := Int32) (fun Φ => ∀ (t4 : Int32) (H : Heap) (locs : List Loc) (ls : Array Slot), Φ t4 → Hs D A s.heap (wMd cI ad xs xm xi xw xh xl xr xe xn xo xp xu xd) H locs → lv_has ls 5 [(0, .ref (ad 0)), (1, .int v1), (2, .int v2), (3, .int v3), (4, .int t4)] → W p l e rmX4_seenThen s m args below meth c H locs 0 0 Q (F0 m 38 ls [])) (wp_bb hf) ?_ ?_
    · intro t4 H locs ls hf hH hl
      refine lv_iload hx hb dX4_seenThen_38 (lv_at hl 4 rfl) ?_
      refine lv_if_eq (tgt := 50) hx hb dX4_seenThen_40 (by decide) (fun hc => ?_) (fun hc => ?_)
      · have hf := wp_t hc hf
        refine lv_aload_n hx hb dX4_seenThen_50 rfl (lv_at hl 0 rfl) ?_
        refine lv_iload_n hx hb dX4_seenThen_51 rfl (lv_at hl 2 rfl) ?_
        obtain ⟨x6, hcl, hf⟩ := wp_b hf
        refine k_Vv0 F hK hH hA hl.1 ⟨Nat.zero_le _, Nat.zero_le _⟩ [.int v2] [] (ctX4_takes ad xs xm xi xw xh xl xr xe xn xo xp xu xd v2 hcl) (cwV 1 hts gX4_seenThen_X4_takes rfl rfl rfl hdVX4_takes ⟨Nat.le_of_ble_eq_true rfl, Nat.le_of_ble_eq_true rfl⟩) dX4_seenThen_52 0 rfl rfl rfl rfl rfl (Nat.le_of_ble_eq_true rfl) rfl (fun H locs hH => ?_)
        have hH : Hs D A s.heap (wMd cI ad xs x6 xi xw xh xl xr xe xn xo xp xu xd) H locs := hH
        refine lv_iload_n hx hb dX4_seenThen_55 rfl (lv_at hl 3 rfl) ?_
        refine lv_if_ne (tgt := 70) hx hb dX4_seenThen_56 (by decide) (fun hc => ?_) (fun hc => ?_)
        · have hf := wp_f hc hf
          refine lv_aload_n hx hb dX4_seenThen_70 rfl (lv_at hl 0 rfl) ?_
          refine k_get (v := .ref (ad 2)) F hK hH 0 inX4_seenThen_X4 1 mbX4_seenThen_f13 dX4_seenThen_71 rfl rfl (by decide) rfl ?_
          refine lv_iload_n hx hb dX4_seenThen_74 rfl (lv_at hl 1 rfl) ?_
          obtain ⟨x7, hcl, hf⟩ := wp_b hf
          refine k_Si F hK hH hA hl.1 ⟨Nat.zero_le _, Nat.zero_le _⟩ [2] [.ref (ad 2), .int v1] [] (ctX4_verdictIn (ad 2) x6 v1 hcl) (va_cwS 2 hts gX4_seenThen_X4_verdictIn rfl rfl rfl hdSX4_verdictIn ⟨Nat.le_of_ble_eq_true rfl, Nat.le_of_ble_eq_true rfl⟩) dX4_seenThen_75 rfl rfl (Nat.le_of_ble_eq_true rfl) rfl rfl (by decide) (fun H locs hH => ?_)
          have hH : Hs D A s.heap (wMd cI ad xs x6 xi xw xh xl xr xe xn xo xp xu xd) H locs := hH
          have hrs := wp_s hf
          subst hrs
          exact RET H locs ls 78 dX4_seenThen_78 rfl hH
        · have hf := wp_t hc hf
          refine lv_aload_n hx hb dX4_seenThen_59 rfl (lv_at hl 0 rfl) ?_
          refine k_get (v := .ref (ad 2)) F hK hH 0 inX4_seenThen_X4 1 mbX4_seenThen_f13 dX4_seenThen_60 rfl rfl (by decide) rfl ?_
          refine lv_iload_n hx hb dX4_seenThen_63 rfl (lv_at hl 1 rfl) ?_
          obtain ⟨x8, hcl, hf⟩ := wp_b hf
          refine k_Si F hK hH hA hl.1 ⟨Nat.zero_le _, Nat.zero_le _⟩ [2] [.ref (ad 2), .int v1] [] (ctX4_seenIn (ad 2) x6 v1 hcl) (va_cwS 2 hts gX4_seenThen_X4_seenIn rfl rfl rfl hdSX4_seenIn ⟨Nat.le_of_ble_eq_true rfl, Nat.le_of_ble_eq_true rfl⟩) dX4_seenThen_64 rfl rfl (Nat.le_of_ble_eq_true rfl) rfl rfl (by decide) (fun H locs hH => ?_)
          have hH : Hs D A s.heap (wMd cI ad xs x6 xi xw xh xl xr xe xn xo xp xu xd) H locs := hH
          refine lv_goto (tgt := 78) hx hb dX4_seenThen_67 (by decide) ?_
          have hrs := wp_s hf
          subst hrs
          exact RET H locs ls 78 dX4_seenThen_78 rfl hH
      · have hf := wp_f hc hf
        refine lv_aload_n hx hb dX4_seenThen_43 rfl (lv_at hl 0 rfl) ?_
        refine lv_iload hx hb dX4_seenThen_44 (lv_at hl 4 rfl) ?_
        obtain ⟨x9, hcl, hf⟩ := wp_b hf
        refine k_Vi0 F hK hH hA hl.1 ⟨Nat.zero_le _, Nat.zero_le _⟩ [.int t4] [] (ctX4_no ad xs xm xi xw xh xl xr xe xn xo xp xu xd t4 hcl) (cwV 1 hts gX4_seenThen_X4_no rfl rfl rfl hdVX4_no ⟨Nat.le_of_ble_eq_true rfl, Nat.le_of_ble_eq_true rfl⟩) dX4_seenThen_46 0 rfl rfl rfl rfl rfl (Nat.le_of_ble_eq_true rfl) rfl (fun H locs hH => ?_)
        have hH : Hs D A s.heap (wMd cI ad xs xm xi xw xh xl xr x9.2 xn xo xp xu xd) H locs := hH
        refine W.eq (g2 := F0 m 49 ls [.int x9.1]) rfl ?_
        have hrs := wp_s hf
        subst hrs
        exact RET H locs ls 49 dX4_seenThen_49 rfl hH
    · intro Φ JJ hf
      refine lv_if_ne (tgt := 38) hx hb dX4_seenThen_22 (by decide) (fun hc => ?_) (fun hc => ?_)
      · have hf := wp_f hc hf
        have hw := wp_s hf
        exact JJ _ _ _ _ hw hH (lv_sub hl [1, 2, 3, 4, 0] rfl)
      · have hf := wp_t hc hf
        refine lv_iload_n hx hb dX4_seenThen_25 rfl (lv_at hl 4 rfl) ?_
        refine lv_iconst (v := 0) hx hb dX4_seenThen_26 (by decide) ?_
        refine lv_iconst (v := 1) hx hb dX4_seenThen_27 (by decide) ?_
        obtain ⟨x5, hcl, hf⟩ := wp_b hf
        refine k_Si F hK hH hA hl.1 ⟨Nat.zero_le _, Nat.zero_le _⟩ [] [.int v3, .int 0, .int 1] [] (ctX4_isIn v3 0 1 hcl) (va_cwS 3 hts gX4_seenThen_X4_isIn rfl rfl rfl hdSX4_isIn ⟨Nat.le_of_ble_eq_true rfl, Nat.le_of_ble_eq_true rfl⟩) dX4_seenThen_28 rfl rfl (Nat.le_of_ble_eq_true rfl) rfl rfl (by decide) (fun H locs hH => ?_)
        have hH : Hs D A s.heap (wMd cI ad xs xm xi xw xh xl xr xe xn xo xp xu xd) H locs := hH
        refine lv_if_ne (tgt := 38) hx hb dX4_seenThen_31 (by decide) (fun hc => ?_) (fun hc => ?_)
        · have hf := wp_f hc hf
          have hw := wp_s hf
          exact JJ _ _ _ _ hw hH (lv_sub hl [1, 2, 3, 4, 0] rfl)
        · have hf := wp_t hc hf
          refine lv_bipush (v := (-2)) hx hb dX4_seenThen_34 (by decide) ?_
          refine lv_istore (lv' := [(4, .int (-2)), (0, .ref (ad 0)), (1, .int v1), (2, .int v2), (3, .int v3)]) hx hb dX4_seenThen_36 hl (by decide) rfl (fun ls hl => ?_)
          have hw := wp_s hf
          exact JJ _ _ _ _ hw hH (lv_sub hl [1, 2, 3, 4, 0] rfl)
  · intro Φ JJ hf
    refine lv_if_eq (tgt := 17) hx hb dX4_seenThen_4 (by decide) (fun hc => ?_) (fun hc => ?_)
    · have hf := wp_t hc hf
      refine lv_iconst (v := (-1)) hx hb dX4_seenThen_17 (by decide) ?_
      have hw := wp_s hf
      exact JJ _ _ _ _ hw hH (lv_sub hl [0, 1, 2, 3] rfl)
    · have hf := wp_f hc hf
      refine lv_iload_n hx hb dX4_seenThen_7 rfl (lv_at hl 2 rfl) ?_
      refine lv_iconst (v := 0) hx hb dX4_seenThen_8 (by decide) ?_
      refine lv_bipush (v := 60) hx hb dX4_seenThen_9 (by decide) ?_
      obtain ⟨x3, hcl, hf⟩ := wp_b hf
      refine k_Si F hK hH hA hl.1 ⟨Nat.zero_le _, Nat.zero_le _⟩ [] [.int v2, .int 0, .int 60] [] (ctX4_wrongBy v2 0 60 hcl) (va_cwS 3 hts gX4_seenThen_X4_wrongBy rfl rfl rfl hdSX4_wrongBy ⟨Nat.le_of_ble_eq_true rfl, Nat.le_of_ble_eq_true rfl⟩) dX4_seenThen_11 rfl rfl (Nat.le_of_ble_eq_true rfl) rfl rfl (by decide) (fun H locs hH => ?_)
      have hH : Hs D A s.heap (wMd cI ad xs xm xi xw xh xl xr xe xn xo xp xu xd) H locs := hH
      refine lv_goto (tgt := 18) hx hb dX4_seenThen_14 (by decide) ?_
      have hw := wp_s hf
      exact JJ _ _ _ _ hw hH (lv_sub hl [0, 1, 2, 3] rfl)

def bX4_falls_49 (v1 : Int32) (v2 : Int32) (xe : (Nat → Int32)) : (Int32 × (Nat → Int32)) → Option ((Int32 × (Nat → Int32)) ⊕ ((Int32 × (Nat → Int32) × (Nat → Int32)) ⊕ ((Nat → Int32)))) := fun ((t5, t6) : Int32 × (Nat → Int32)) =>
  if (60 : Int32) < t5 then
    some (.inr (.inr t6))
  else
    Option.bind (fX4_verdictIn v1 t6) fun x8 =>
    if x8 = v2 then
      some (.inr (.inl (t5, t6, xe)))
    else
      Option.bind (fX4_hour t6) fun x9 =>
      some (.inl (t5 + 1, x9))

def fX4_falls (v1 : Int32) (v2 : Int32) (xs : (Nat → Int32)) (xm : (Nat → Int32)) (xe : (Nat → Int32)) : Option (Int32 × (Nat → Int32) × (Nat → Int32)) :=
  Option.bind (fX4_isBranch v1) fun x1 =>
  Option.bind (if x1 = 0 then
      some (-1)
    else
      Option.bind (fX4_isVerdict v2) fun x3 =>
      if x3 = 0 then
        some (-2)
      else
        some 0) fun (t2 : Int32) =>
  if t2 = 0 then
    Option.bind (fX4_copies xs xm) fun x4 =>
    Option.bind (lp (bX4_falls_49 v1 v2 xe) fu (0, x4)) (el (fun v => some v) (fun (t7 : (Nat → Int32)) =>
      some ((-9), t7, xe)))
  else
    Option.bind (fX4_no t2 xe) fun x10 =>
    some (x10.1, xm, x10.2)

def rmX4_falls : Room := { frames := 5, cells := 0, slots := 0, locals := 113 }
theorem mbX4_falls_f9 : Cond.fieldLink RX4 9 (TX4 0).1 (TX4 0).2.1 (TX4 0).2.2.1 ∈ wsX4_falls := by decide +kernel
theorem inX4_falls_X4 : ∀ w ∈ wsX40, w ∈ wsX4_falls := by decide +kernel
theorem mbX4_falls_f13 : Cond.fieldLink RX4 13 (TX4 1).1 (TX4 1).2.1 (TX4 1).2.2.1 ∈ wsX4_falls := by decide +kernel
theorem hdVX4_falls : yX4_falls.cls = RX4 ∧ yX4_falls.cls ≠ "java/lang/invoke/MethodHandle" ∧ yX4_falls.cls ≠ "java/lang/invoke/VarHandle" ∧ (parseMethodDescriptor yX4_falls.desc).map (fun d => d.parameters.length) = some 2 := by decide +kernel
set_option maxHeartbeats 4000000 in
set_option maxRecDepth 100000 in
theorem ctX4_falls {l : Launch} {D : va_G} {cI cJ cQ : ClassId} (ad : Nat → Nat) (xs : (Nat → Int32)) (xm : (Nat → Int32)) (xi : (Nat → Int32)) (xw : (Nat → Int32)) (xh : Int32) (xl : (Nat → Int32)) (xr : (Nat → Int32)) (xe : (Nat → Int32)) (xn : Int32) (xo : Int32) (xp : Int32) (xu : (Nat → Int32)) (xd : Int32) (v1 : Int32) (v2 : Int32) {res : Int32 × (Nat → Int32) × (Nat → Int32)} (h : fX4_falls v1 v2 xs xm xe = some res) : CtI l D cI cJ cQ yX4_falls wsX4_falls rmX4_falls [.ref (ad 0), .int v1, .int v2] (wMd cI ad xs xm xi xw xh xl xr xe xn xo xp xu xd) res.1 (wMd cI ad xs res.2.1 xi xw xh xl xr res.2.2 xn xo xp xu xd) := by
  refine ctI_of .int (cc := cX4_falls) (maxL := 5) (by decide) rfl (Nat.le_of_ble_eq_true rfl) ?_
  intro p e s m args below meth c A Q ls F hK hA RET hH hl
  obtain ⟨hx, hb, hml, hown, hts⟩ := id F
  have hl : lv_has ls 5 [(0, .ref (ad 0)), (1, .int v1), (2, .int v2)] := hl
  have hf : wpO (fX4_falls v1 v2 xs xm xe) (fun v => v = res) := ⟨_, h, rfl⟩
  obtain ⟨H, eH⟩ : ∃ H, H = s.heap := ⟨_, rfl⟩
  obtain ⟨locs, eL⟩ : ∃ locs : List Loc, locs = [] := ⟨_, rfl⟩
  have hH : Hs D A s.heap (wMd cI ad xs xm xi xw xh xl xr xe xn xo xp xu xd) H locs := by rw [eH, eL]; exact hH
  rw [← eL]
  suffices hgo : W p l e rmX4_falls s m args below meth c H locs 0 0 Q (F0 m 0 ls []) by rw [eH] at hgo; exact hgo
  clear eH eL
  refine lv_iload_n hx hb dX4_falls_0 rfl (lv_at hl 1 rfl) ?_
  obtain ⟨x1, hcl, hf⟩ := wp_b hf
  refine k_Si F hK hH hA hl.1 ⟨Nat.zero_le _, Nat.zero_le _⟩ [] [.int v1] [] (ctX4_isBranch v1 hcl) (va_cwS 1 hts gX4_falls_X4_isBranch rfl rfl rfl hdSX4_isBranch ⟨Nat.le_of_ble_eq_true rfl, Nat.le_of_ble_eq_true rfl⟩) dX4_falls_1 rfl rfl (Nat.le_of_ble_eq_true rfl) rfl rfl (by decide) (fun H locs hH => ?_)
  have hH : Hs D A s.heap (wMd cI ad xs xm xi xw xh xl xr xe xn xo xp xu xd) H locs := hH
  refine join_ (α := Int32) (fun Φ => ∀ (t2 : Int32) (H : Heap) (locs : List Loc) (ls : Array Slot), Φ t2 → Hs D A s.heap (wMd cI ad xs xm xi xw xh xl xr xe xn xo xp xu xd) H locs → lv_has ls 5 [(0, .ref (ad 0)), (1, .int v1), (2, .int v2)] → W p l e rmX4_falls s m args below meth c H locs 0 0 Q (F0 m 24 ls [.int t2])) (wp_bb hf) ?_ ?_
  · intro t2 H locs ls hf hH hl
    refine lv_istore_n (lv' := [(3, .int t2), (0, .ref (ad 0)), (1, .int v1), (2, .int v2)]) hx hb dX4_falls_24 rfl hl (by decide) rfl (fun ls hl => ?_)
    refine lv_iload_n hx hb dX4_falls_25 rfl (lv_at hl 0 rfl) ?_
    refine lv_if_eq (tgt := 35) hx hb dX4_falls_26 (by decide) (fun hc => ?_) (fun hc => ?_)
    · have hf := wp_t hc hf
      refine lv_aload_n hx hb dX4_falls_35 rfl (lv_at hl 1 rfl) ?_
      refine k_get (v := .ref (ad 1)) F hK hH 0 inX4_falls_X4 0 mbX4_falls_f9 dX4_falls_36 rfl rfl (by decide) rfl ?_
      refine lv_aload_n hx hb dX4_falls_39 rfl (lv_at hl 1 rfl) ?_
      refine k_get (v := .ref (ad 2)) F hK hH 0 inX4_falls_X4 1 mbX4_falls_f13 dX4_falls_40 rfl rfl (by decide) rfl ?_
      obtain ⟨x4, hcl, hf⟩ := wp_b hf
      refine k_Sv F hK hH hA hl.1 ⟨Nat.zero_le _, Nat.zero_le _⟩ [1, 2] [.ref (ad 1), .ref (ad 2)] [] (ctX4_copies (ad 1) (ad 2) xs xm hcl) (va_cwS 2 hts gX4_falls_X4_copies rfl rfl rfl hdSX4_copies ⟨Nat.le_of_ble_eq_true rfl, Nat.le_of_ble_eq_true rfl⟩) dX4_falls_43 rfl rfl (Nat.le_of_ble_eq_true rfl) rfl rfl (by decide) (fun H locs hH => ?_)
      have hH : Hs D A s.heap (wMd cI ad xs x4 xi xw xh xl xr xe xn xo xp xu xd) H locs := hH
      refine lv_iconst (v := 0) hx hb dX4_falls_46 (by decide) ?_
      refine lv_istore (lv' := [(4, .int 0), (3, .int t2), (0, .ref (ad 0)), (1, .int v1), (2, .int v2)]) hx hb dX4_falls_47 hl (by decide) rfl (fun ls hl => ?_)
      have LP : ∀ (Φ : ((Int32 × (Nat → Int32) × (Nat → Int32)) ⊕ ((Nat → Int32))) → Prop), (∀ v : Int32 × (Nat → Int32) × (Nat → Int32), Φ (.inl v) → v = res) → (∀ (t7 : (Nat → Int32)) (H : Heap) (locs : List Loc) (ls : Array Slot), Φ (.inr t7) → Hs D A s.heap (wMd cI ad xs t7 xi xw xh xl xr xe xn xo xp xu xd) H locs → lv_has ls 5 [] → W p l e rmX4_falls s m args below meth c H locs 0 0 Q (F0 m 84 ls [])) → ∀ (n : Nat) (t5 : Int32) (t6 : (Nat → Int32)) (H : Heap) (locs : List Loc) (ls : Array Slot), wpO (lp (bX4_falls_49 v1 v2 xe) n (t5, t6)) Φ → Hs D A s.heap (wMd cI ad xs t6 xi xw xh xl xr xe xn xo xp xu xd) H locs → lv_has ls 5 [(0, .ref (ad 0)), (1, .int v1), (2, .int v2), (4, .int t5)] → W p l e rmX4_falls s m args below meth c H locs 0 0 Q (F0 m 49 ls []) := by
        intro Φ hret EX n
        induction n with
        | zero =>
          intro t5 t6 H locs ls hf hH hl
          exact (wp_l0 hf).elim
        | succ n ih =>
          intro t5 t6 H locs ls hf hH hl
          have hf := wp_l hf
          refine lv_iload hx hb dX4_falls_49 (lv_at hl 3 rfl) ?_
          refine lv_bipush (v := 60) hx hb dX4_falls_51 (by decide) ?_
          refine lv_icmp_gt (tgt := 84) hx hb dX4_falls_53 (by decide) (fun hc => ?_) (fun hc => ?_)
          · have hf := wp_t hc hf
            have hw := wp_out hf
            exact EX _ _ _ _ hw hH (lv_sub hl [] rfl)
          · have hf := wp_f hc hf
            refine lv_aload_n hx hb dX4_falls_56 rfl (lv_at hl 0 rfl) ?_
            refine k_get (v := .ref (ad 2)) F hK hH 0 inX4_falls_X4 1 mbX4_falls_f13 dX4_falls_57 rfl rfl (by decide) rfl ?_
            refine lv_iload_n hx hb dX4_falls_60 rfl (lv_at hl 1 rfl) ?_
            obtain ⟨x8, hcl, hf⟩ := wp_b hf
            refine k_Si F hK hH hA hl.1 ⟨Nat.zero_le _, Nat.zero_le _⟩ [2] [.ref (ad 2), .int v1] [] (ctX4_verdictIn (ad 2) t6 v1 hcl) (va_cwS 2 hts gX4_falls_X4_verdictIn rfl rfl rfl hdSX4_verdictIn ⟨Nat.le_of_ble_eq_true rfl, Nat.le_of_ble_eq_true rfl⟩) dX4_falls_61 rfl rfl (Nat.le_of_ble_eq_true rfl) rfl rfl (by decide) (fun H locs hH => ?_)
            have hH : Hs D A s.heap (wMd cI ad xs t6 xi xw xh xl xr xe xn xo xp xu xd) H locs := hH
            refine lv_iload_n hx hb dX4_falls_64 rfl (lv_at hl 2 rfl) ?_
            refine lv_icmp_ne (tgt := 71) hx hb dX4_falls_65 (by decide) (fun hc => ?_) (fun hc => ?_)
            · have hf := wp_f hc hf
              refine lv_aload_n hx hb dX4_falls_71 rfl (lv_at hl 0 rfl) ?_
              refine k_get (v := .ref (ad 2)) F hK hH 0 inX4_falls_X4 1 mbX4_falls_f13 dX4_falls_72 rfl rfl (by decide) rfl ?_
              obtain ⟨x9, hcl, hf⟩ := wp_b hf
              refine k_Sv F hK hH hA hl.1 ⟨Nat.zero_le _, Nat.zero_le _⟩ [2] [.ref (ad 2)] [] (ctX4_hour (ad 2) t6 hcl) (va_cwS 1 hts gX4_falls_X4_hour rfl rfl rfl hdSX4_hour ⟨Nat.le_of_ble_eq_true rfl, Nat.le_of_ble_eq_true rfl⟩) dX4_falls_75 rfl rfl (Nat.le_of_ble_eq_true rfl) rfl rfl (by decide) (fun H locs hH => ?_)
              have hH : Hs D A s.heap (wMd cI ad xs x9 xi xw xh xl xr xe xn xo xp xu xd) H locs := hH
              refine lv_iinc (v := t5 + 1) (lv' := [(4, .int (t5 + 1)), (0, .ref (ad 0)), (1, .int v1), (2, .int v2)]) hx hb dX4_falls_78 hl (k := 3) rfl rfl (by decide) rfl (fun ls hl => ?_)
              refine lv_goto (tgt := 49) hx hb dX4_falls_81 (by decide) ?_
              have hw := wp_in hf
              exact ih _ _ _ _ _ hw hH (lv_sub hl [1, 2, 3, 0] rfl)
            · have hf := wp_t hc hf
              refine lv_iload hx hb dX4_falls_68 (lv_at hl 3 rfl) ?_
              have hrs := hret _ (wp_out hf)
              subst hrs
              exact RET H locs ls 70 dX4_falls_70 rfl hH
      refine LP _ (fun v hv => by have h9 := wp_s hv; exact h9) (fun t7 H locs ls hf hH hl => ?_) fu _ _ _ _ _ (wp_bb hf) hH (lv_sub hl [2, 3, 4, 0] rfl)
      refine lv_bipush (v := (-9)) hx hb dX4_falls_84 (by decide) ?_
      have hrs := wp_s hf
      subst hrs
      exact RET H locs ls 86 dX4_falls_86 rfl hH
    · have hf := wp_f hc hf
      refine lv_aload_n hx hb dX4_falls_29 rfl (lv_at hl 1 rfl) ?_
      refine lv_iload_n hx hb dX4_falls_30 rfl (lv_at hl 0 rfl) ?_
      obtain ⟨x10, hcl, hf⟩ := wp_b hf
      refine k_Vi0 F hK hH hA hl.1 ⟨Nat.zero_le _, Nat.zero_le _⟩ [.int t2] [] (ctX4_no ad xs xm xi xw xh xl xr xe xn xo xp xu xd t2 hcl) (cwV 1 hts gX4_falls_X4_no rfl rfl rfl hdVX4_no ⟨Nat.le_of_ble_eq_true rfl, Nat.le_of_ble_eq_true rfl⟩) dX4_falls_31 0 rfl rfl rfl rfl rfl (Nat.le_of_ble_eq_true rfl) rfl (fun H locs hH => ?_)
      have hH : Hs D A s.heap (wMd cI ad xs xm xi xw xh xl xr x10.2 xn xo xp xu xd) H locs := hH
      refine W.eq (g2 := F0 m 34 ls [.int x10.1]) rfl ?_
      have hrs := wp_s hf
      subst hrs
      exact RET H locs ls 34 dX4_falls_34 rfl hH
  · intro Φ JJ hf
    refine lv_if_ne (tgt := 11) hx hb dX4_falls_4 (by decide) (fun hc => ?_) (fun hc => ?_)
    · have hf := wp_f hc hf
      refine lv_iload_n hx hb dX4_falls_11 rfl (lv_at hl 2 rfl) ?_
      obtain ⟨x3, hcl, hf⟩ := wp_b hf
      refine k_Si F hK hH hA hl.1 ⟨Nat.zero_le _, Nat.zero_le _⟩ [] [.int v2] [] (ctX4_isVerdict v2 hcl) (va_cwS 1 hts gX4_falls_X4_isVerdict rfl rfl rfl hdSX4_isVerdict ⟨Nat.le_of_ble_eq_true rfl, Nat.le_of_ble_eq_true rfl⟩) dX4_falls_12 rfl rfl (Nat.le_of_ble_eq_true rfl) rfl rfl (by decide) (fun H locs hH => ?_)
      have hH : Hs D A s.heap (wMd cI ad xs xm xi xw xh xl xr xe xn xo xp xu xd) H locs := hH
      refine lv_if_eq (tgt := 22) hx hb dX4_falls_15 (by decide) (fun hc => ?_) (fun hc => ?_)
      · have hf := wp_t hc hf
        refine lv_bipush (v := (-2)) hx hb dX4_falls_22 (by decide) ?_
        have hw := wp_s hf
        exact JJ _ _ _ _ hw hH (lv_sub hl [0, 1, 2] rfl)
      · have hf := wp_f hc hf
        refine lv_iconst (v := 0) hx hb dX4_falls_18 (by decide) ?_
        refine lv_goto (tgt := 24) hx hb dX4_falls_19 (by decide) ?_
        have hw := wp_s hf
        exact JJ _ _ _ _ hw hH (lv_sub hl [0, 1, 2] rfl)
    · have hf := wp_t hc hf
      refine lv_iconst (v := (-1)) hx hb dX4_falls_7 (by decide) ?_
      refine lv_goto (tgt := 24) hx hb dX4_falls_8 (by decide) ?_
      have hw := wp_s hf
      exact JJ _ _ _ _ hw hH (lv_sub hl [0, 1, 2] rfl)

