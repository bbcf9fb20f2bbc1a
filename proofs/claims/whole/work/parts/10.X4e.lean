def bX4_isDone_120 (xu : (Nat → Int32)) : (Int32 × (Nat → Int32)) → Option ((Int32 × (Nat → Int32)) ⊕ ((Nat → Int32))) := fun ((t6, t7) : Int32 × (Nat → Int32)) =>
  if (3 : Int32) ≤ t6 then
    some (.inr t7)
  else
    Option.bind (fX4_of (t7 (Int32.toNatClampNeg 0)) t6) fun x9 =>
    if ob t6 3 then none else
    if ob x9 53 then none else
    some (.inl (t6 + 1, upd t7 (Int32.toNatClampNeg x9) (xu (Int32.toNatClampNeg t6))))

def fX4_isDone (v1 : Int32) (xs : (Nat → Int32)) (xu : (Nat → Int32)) : Option (Int32 × (Nat → Int32)) :=
  if v1 = 99 then
    Option.bind (fX4_isCell (xu (Int32.toNatClampNeg 0))) fun x1 =>
    if x1 = 0 then
      some (0, xs)
    else
      if ob (4 + (xu (Int32.toNatClampNeg 0))) 53 then none else
      some (1, upd xs (Int32.toNatClampNeg (4 + (xu (Int32.toNatClampNeg 0)))) (xu (Int32.toNatClampNeg 1)))
  else
    if v1 = 100 then
      Option.bind (fX4_isThing (xu (Int32.toNatClampNeg 0)) xs) fun x2 =>
      if x2 = 0 then
        some (0, xs)
      else
        Option.bind (fX4_isCell (xu (Int32.toNatClampNeg 1))) fun x3 =>
        if x3 = 0 then
          some (0, xs)
        else
          Option.bind (fX4_of (xu (Int32.toNatClampNeg 0)) 2) fun x4 =>
          if ob x4 53 then none else
          some (1, upd xs (Int32.toNatClampNeg x4) (xu (Int32.toNatClampNeg 1)))
    else
      if v1 = 101 then
        if (16 : Int32) < (xu (Int32.toNatClampNeg 0)) then
          some (0, upd xs (Int32.toNatClampNeg 2) (xu (Int32.toNatClampNeg 0)))
        else
          some (1, upd xs (Int32.toNatClampNeg 2) (xu (Int32.toNatClampNeg 0)))
      else
        if v1 = 116 then
          Option.bind (fX4_isCell (xu (Int32.toNatClampNeg 2))) fun x5 =>
          if x5 = 0 then
            some (0, xs)
          else
            if (xs (Int32.toNatClampNeg 0)) = 7 then
              some (0, xs)
            else
              Option.bind (lp (bX4_isDone_120 xu) fu (0, xs)) fun (t8 : (Nat → Int32)) =>
              some (1, upd t8 (Int32.toNatClampNeg 0) ((t8 (Int32.toNatClampNeg 0)) + 1))
        else
          if v1 = 118 then
            Option.bind (fX4_isVerdict (xu (Int32.toNatClampNeg 1))) fun x10 =>
            if x10 = 0 then
              some (0, xs)
            else
              if ob (20 + (xu (Int32.toNatClampNeg 0))) 53 then none else
              if ob (26 + (xu (Int32.toNatClampNeg 0))) 53 then none else
              some (1, upd (upd xs (Int32.toNatClampNeg (20 + (xu (Int32.toNatClampNeg 0)))) (xu (Int32.toNatClampNeg 1))) (Int32.toNatClampNeg (26 + (xu (Int32.toNatClampNeg 0)))) (xu (Int32.toNatClampNeg 2)))
          else
            if v1 = 120 then
              Option.bind (fX4_isThing (xu (Int32.toNatClampNeg 0)) xs) fun x11 =>
              if x11 = 0 then
                some (0, xs)
              else
                some (1, upd xs (Int32.toNatClampNeg 3) ((xs (Int32.toNatClampNeg 3)) ^^^ ((1 : Int32) <<< ((xu (Int32.toNatClampNeg 0)) &&& 31))))
            else
              Option.bind (fX4_isIn (xu (Int32.toNatClampNeg 0)) 1 60) fun x12 =>
              if x12 = 0 then
                some (0, xs)
              else
                if ((xs (Int32.toNatClampNeg 1)) + (xu (Int32.toNatClampNeg 0))) ≤ 999 then
                  Option.bind (fX4_hoursOn (xu (Int32.toNatClampNeg 0)) xs) fun x13 =>
                  some (1, x13)
                else
                  some (0, xs)

def rmX4_isDone : Room := { frames := 3, cells := 0, slots := 0, locals := 65 }
theorem mbX4_isDone_f31 : Cond.fieldLink RX4 31 (TX4 11).1 (TX4 11).2.1 (TX4 11).2.2.1 ∈ wsX4_isDone := by decide +kernel
theorem inX4_isDone_X4 : ∀ w ∈ wsX40, w ∈ wsX4_isDone := by decide +kernel
theorem mbX4_isDone_f9 : Cond.fieldLink RX4 9 (TX4 0).1 (TX4 0).2.1 (TX4 0).2.2.1 ∈ wsX4_isDone := by decide +kernel
theorem hdVX4_isDone : yX4_isDone.cls = RX4 ∧ yX4_isDone.cls ≠ "java/lang/invoke/MethodHandle" ∧ yX4_isDone.cls ≠ "java/lang/invoke/VarHandle" ∧ (parseMethodDescriptor yX4_isDone.desc).map (fun d => d.parameters.length) = some 1 := by decide +kernel
set_option maxHeartbeats 4000000 in
set_option maxRecDepth 100000 in
theorem ctX4_isDone {l : Launch} {D : va_G} {cI cJ cQ : ClassId} (ad : Nat → Nat) (xs : (Nat → Int32)) (xm : (Nat → Int32)) (xi : (Nat → Int32)) (xw : (Nat → Int32)) (xh : Int32) (xl : (Nat → Int32)) (xr : (Nat → Int32)) (xe : (Nat → Int32)) (xn : Int32) (xo : Int32) (xp : Int32) (xu : (Nat → Int32)) (xd : Int32) (v1 : Int32) {res : Int32 × (Nat → Int32)} (h : fX4_isDone v1 xs xu = some res) : CtI l D cI cJ cQ yX4_isDone wsX4_isDone rmX4_isDone [.ref (ad 0), .int v1] (wMd cI ad xs xm xi xw xh xl xr xe xn xo xp xu xd) res.1 (wMd cI ad res.2 xm xi xw xh xl xr xe xn xo xp xu xd) := by
  refine ctI_of .boolean (cc := cX4_isDone) (maxL := 5) (by decide) rfl (Nat.le_of_ble_eq_true rfl) ?_
  intro p e s m args below meth c A Q ls F hK hA RET hH hl
  obtain ⟨hx, hb, hml, hown, hts⟩ := id F
  have hl : lv_has ls 5 [(0, .ref (ad 0)), (1, .int v1)] := hl
  have hf : wpO (fX4_isDone v1 xs xu) (fun v => v = res) := ⟨_, h, rfl⟩
  obtain ⟨H, eH⟩ : ∃ H, H = s.heap := ⟨_, rfl⟩
  obtain ⟨locs, eL⟩ : ∃ locs : List Loc, locs = [] := ⟨_, rfl⟩
  have hH : Hs D A s.heap (wMd cI ad xs xm xi xw xh xl xr xe xn xo xp xu xd) H locs := by rw [eH, eL]; exact hH
  rw [← eL]
  suffices hgo : W p l e rmX4_isDone s m args below meth c H locs 0 0 Q (F0 m 0 ls []) by rw [eH] at hgo; exact hgo
  clear eH eL
  refine lv_aload_n hx hb dX4_isDone_0 rfl (lv_at hl 0 rfl) ?_
  refine k_get (v := .ref (ad 8)) F hK hH 0 inX4_isDone_X4 11 mbX4_isDone_f31 dX4_isDone_1 rfl rfl (by decide) rfl ?_
  refine lv_iconst (v := 0) hx hb dX4_isDone_4 (by decide) ?_
  refine k_iald (f := xu) (n := 3) F hK hH 8 dX4_isDone_5 (by decide) rfl ?_
  refine lv_istore_n (lv' := [(2, .int (xu (Int32.toNatClampNeg 0))), (0, .ref (ad 0)), (1, .int v1)]) hx hb dX4_isDone_6 rfl hl (by decide) rfl (fun ls hl => ?_)
  refine lv_aload_n hx hb dX4_isDone_7 rfl (lv_at hl 1 rfl) ?_
  refine k_get (v := .ref (ad 8)) F hK hH 0 inX4_isDone_X4 11 mbX4_isDone_f31 dX4_isDone_8 rfl rfl (by decide) rfl ?_
  refine lv_iconst (v := 1) hx hb dX4_isDone_11 (by decide) ?_
  refine k_iald (f := xu) (n := 3) F hK hH 8 dX4_isDone_12 (by decide) rfl ?_
  refine lv_istore_n (lv' := [(3, .int (xu (Int32.toNatClampNeg 1))), (2, .int (xu (Int32.toNatClampNeg 0))), (0, .ref (ad 0)), (1, .int v1)]) hx hb dX4_isDone_13 rfl hl (by decide) rfl (fun ls hl => ?_)
  refine lv_iload_n hx hb dX4_isDone_14 rfl (lv_at hl 3 rfl) ?_
  by_cases hc0 : v1 = 99
  · have hf := wp_t hc0 hf
    refine lv_lookup (off := 57) (tgt := 72) hx hb dX4_isDone_15 rfl (by rw [hc0]; try rfl) (by decide) ?_
    refine lv_iload_n hx hb dX4_isDone_72 rfl (lv_at hl 1 rfl) ?_
    obtain ⟨x1, hcl, hf⟩ := wp_b hf
    refine k_Si F hK hH hA hl.1 ⟨Nat.zero_le _, Nat.zero_le _⟩ [] [.int (xu (Int32.toNatClampNeg 0))] [] (ctX4_isCell (xu (Int32.toNatClampNeg 0)) hcl) (va_cwS 1 hts gX4_isDone_X4_isCell rfl rfl rfl hdSX4_isCell ⟨Nat.le_of_ble_eq_true rfl, Nat.le_of_ble_eq_true rfl⟩) dX4_isDone_73 rfl rfl (Nat.le_of_ble_eq_true rfl) rfl rfl (by decide) (fun H locs hH => ?_)
    have hH : Hs D A s.heap (wMd cI ad xs xm xi xw xh xl xr xe xn xo xp xu xd) H locs := hH
    refine lv_if_ne (tgt := 81) hx hb dX4_isDone_76 (by decide) (fun hc => ?_) (fun hc => ?_)
    · have hf := wp_f hc hf
      refine lv_aload_n hx hb dX4_isDone_81 rfl (lv_at hl 2 rfl) ?_
      refine k_get (v := .ref (ad 1)) F hK hH 0 inX4_isDone_X4 0 mbX4_isDone_f9 dX4_isDone_82 rfl rfl (by decide) rfl ?_
      refine lv_iconst (v := 4) hx hb dX4_isDone_85 (by decide) ?_
      refine lv_iload_n hx hb dX4_isDone_86 rfl (lv_at hl 1 rfl) ?_
      refine lv_iadd hx hb dX4_isDone_87 ?_
      refine lv_iload_n hx hb dX4_isDone_88 rfl (lv_at hl 0 rfl) ?_
      obtain ⟨hi, hf⟩ := wp_n hf
      refine k_iast (f := xs) (n := 53) F hK hH 1 dX4_isDone_89 hi rfl (fun H locs hH => ?_)
      have hH : Hs D A s.heap (wMd cI ad (upd xs (Int32.toNatClampNeg (4 + (xu (Int32.toNatClampNeg 0)))) (xu (Int32.toNatClampNeg 1))) xm xi xw xh xl xr xe xn xo xp xu xd) H locs := hH
      refine lv_iconst (v := 1) hx hb dX4_isDone_90 (by decide) ?_
      have hrs := wp_s hf
      subst hrs
      exact RET H locs ls 91 dX4_isDone_91 (by show narrow .boolean (.int 1) = .int 1; rfl) hH
    · have hf := wp_t hc hf
      refine lv_iconst (v := 0) hx hb dX4_isDone_79 (by decide) ?_
      have hrs := wp_s hf
      subst hrs
      exact RET H locs ls 80 dX4_isDone_80 (by show narrow .boolean (.int 0) = .int 0; rfl) hH
  · have hf := wp_f hc0 hf
    by_cases hc1 : v1 = 100
    · have hf := wp_t hc1 hf
      refine lv_lookup (off := 231) (tgt := 246) hx hb dX4_isDone_15 rfl (by rw [hc1]; try rfl) (by decide) ?_
      refine lv_aload_n hx hb dX4_isDone_246 rfl (lv_at hl 2 rfl) ?_
      refine lv_iload_n hx hb dX4_isDone_247 rfl (lv_at hl 1 rfl) ?_
      obtain ⟨x2, hcl, hf⟩ := wp_b hf
      refine k_Vi0 F hK hH hA hl.1 ⟨Nat.zero_le _, Nat.zero_le _⟩ [.int (xu (Int32.toNatClampNeg 0))] [] (ctX4_isThing ad xs xm xi xw xh xl xr xe xn xo xp xu xd (xu (Int32.toNatClampNeg 0)) hcl) (cwV 1 hts gX4_isDone_X4_isThing rfl rfl rfl hdVX4_isThing ⟨Nat.le_of_ble_eq_true rfl, Nat.le_of_ble_eq_true rfl⟩) dX4_isDone_248 0 rfl rfl rfl rfl rfl (Nat.le_of_ble_eq_true rfl) rfl (fun H locs hH => ?_)
      have hH : Hs D A s.heap (wMd cI ad xs xm xi xw xh xl xr xe xn xo xp xu xd) H locs := hH
      refine lv_if_eq (tgt := 261) hx hb dX4_isDone_251 (by decide) (fun hc => ?_) (fun hc => ?_)
      · have hf := wp_t hc hf
        refine lv_iconst (v := 0) hx hb dX4_isDone_261 (by decide) ?_
        have hrs := wp_s hf
        subst hrs
        exact RET H locs ls 262 dX4_isDone_262 (by show narrow .boolean (.int 0) = .int 0; rfl) hH
      · have hf := wp_f hc hf
        refine lv_iload_n hx hb dX4_isDone_254 rfl (lv_at hl 0 rfl) ?_
        obtain ⟨x3, hcl, hf⟩ := wp_b hf
        refine k_Si F hK hH hA hl.1 ⟨Nat.zero_le _, Nat.zero_le _⟩ [] [.int (xu (Int32.toNatClampNeg 1))] [] (ctX4_isCell (xu (Int32.toNatClampNeg 1)) hcl) (va_cwS 1 hts gX4_isDone_X4_isCell rfl rfl rfl hdSX4_isCell ⟨Nat.le_of_ble_eq_true rfl, Nat.le_of_ble_eq_true rfl⟩) dX4_isDone_255 rfl rfl (Nat.le_of_ble_eq_true rfl) rfl rfl (by decide) (fun H locs hH => ?_)
        have hH : Hs D A s.heap (wMd cI ad xs xm xi xw xh xl xr xe xn xo xp xu xd) H locs := hH
        refine lv_if_ne (tgt := 263) hx hb dX4_isDone_258 (by decide) (fun hc => ?_) (fun hc => ?_)
        · have hf := wp_f hc hf
          refine lv_aload_n hx hb dX4_isDone_263 rfl (lv_at hl 2 rfl) ?_
          refine k_get (v := .ref (ad 1)) F hK hH 0 inX4_isDone_X4 0 mbX4_isDone_f9 dX4_isDone_264 rfl rfl (by decide) rfl ?_
          refine lv_iload_n hx hb dX4_isDone_267 rfl (lv_at hl 1 rfl) ?_
          refine lv_iconst (v := 2) hx hb dX4_isDone_268 (by decide) ?_
          obtain ⟨x4, hcl, hf⟩ := wp_b hf
          refine k_Si F hK hH hA hl.1 ⟨Nat.zero_le _, Nat.zero_le _⟩ [] [.int (xu (Int32.toNatClampNeg 0)), .int 2] [.ref (ad 1)] (ctX4_of (xu (Int32.toNatClampNeg 0)) 2 hcl) (va_cwS 2 hts gX4_isDone_X4_of rfl rfl rfl hdSX4_of ⟨Nat.le_of_ble_eq_true rfl, Nat.le_of_ble_eq_true rfl⟩) dX4_isDone_269 rfl rfl (Nat.le_of_ble_eq_true rfl) rfl rfl (by decide) (fun H locs hH => ?_)
          have hH : Hs D A s.heap (wMd cI ad xs xm xi xw xh xl xr xe xn xo xp xu xd) H locs := hH
          refine lv_iload_n hx hb dX4_isDone_272 rfl (lv_at hl 0 rfl) ?_
          obtain ⟨hi, hf⟩ := wp_n hf
          refine k_iast (f := xs) (n := 53) F hK hH 1 dX4_isDone_273 hi rfl (fun H locs hH => ?_)
          have hH : Hs D A s.heap (wMd cI ad (upd xs (Int32.toNatClampNeg x4) (xu (Int32.toNatClampNeg 1))) xm xi xw xh xl xr xe xn xo xp xu xd) H locs := hH
          refine lv_iconst (v := 1) hx hb dX4_isDone_274 (by decide) ?_
          have hrs := wp_s hf
          subst hrs
          exact RET H locs ls 275 dX4_isDone_275 (by show narrow .boolean (.int 1) = .int 1; rfl) hH
        · have hf := wp_t hc hf
          refine lv_iconst (v := 0) hx hb dX4_isDone_261 (by decide) ?_
          have hrs := wp_s hf
          subst hrs
          exact RET H locs ls 262 dX4_isDone_262 (by show narrow .boolean (.int 0) = .int 0; rfl) hH
    · have hf := wp_f hc1 hf
      by_cases hc2 : v1 = 101
      · have hf := wp_t hc2 hf
        refine lv_lookup (off := 188) (tgt := 203) hx hb dX4_isDone_15 rfl (by rw [hc2]; try rfl) (by decide) ?_
        refine lv_aload_n hx hb dX4_isDone_203 rfl (lv_at hl 2 rfl) ?_
        refine k_get (v := .ref (ad 1)) F hK hH 0 inX4_isDone_X4 0 mbX4_isDone_f9 dX4_isDone_204 rfl rfl (by decide) rfl ?_
        refine lv_iconst (v := 2) hx hb dX4_isDone_207 (by decide) ?_
        refine lv_iload_n hx hb dX4_isDone_208 rfl (lv_at hl 1 rfl) ?_
        refine k_iast (f := xs) (n := 53) F hK hH 1 dX4_isDone_209 (by decide) rfl (fun H locs hH => ?_)
        have hH : Hs D A s.heap (wMd cI ad (upd xs (Int32.toNatClampNeg 2) (xu (Int32.toNatClampNeg 0))) xm xi xw xh xl xr xe xn xo xp xu xd) H locs := hH
        refine lv_iload_n hx hb dX4_isDone_210 rfl (lv_at hl 1 rfl) ?_
        refine lv_bipush (v := 16) hx hb dX4_isDone_211 (by decide) ?_
        refine lv_icmp_gt (tgt := 220) hx hb dX4_isDone_213 (by decide) (fun hc => ?_) (fun hc => ?_)
        · have hf := wp_t hc hf
          refine lv_iconst (v := 0) hx hb dX4_isDone_220 (by decide) ?_
          have hrs := wp_s hf
          subst hrs
          exact RET H locs ls 221 dX4_isDone_221 (by show narrow .boolean (.int 0) = .int 0; rfl) hH
        · have hf := wp_f hc hf
          refine lv_iconst (v := 1) hx hb dX4_isDone_216 (by decide) ?_
          refine lv_goto (tgt := 221) hx hb dX4_isDone_217 (by decide) ?_
          have hrs := wp_s hf
          subst hrs
          exact RET H locs ls 221 dX4_isDone_221 (by show narrow .boolean (.int 1) = .int 1; rfl) hH
      · have hf := wp_f hc2 hf
        by_cases hc3 : v1 = 116
        · have hf := wp_t hc3 hf
          refine lv_lookup (off := 77) (tgt := 92) hx hb dX4_isDone_15 rfl (by rw [hc3]; try rfl) (by decide) ?_
          refine lv_aload_n hx hb dX4_isDone_92 rfl (lv_at hl 2 rfl) ?_
          refine k_get (v := .ref (ad 8)) F hK hH 0 inX4_isDone_X4 11 mbX4_isDone_f31 dX4_isDone_93 rfl rfl (by decide) rfl ?_
          refine lv_iconst (v := 2) hx hb dX4_isDone_96 (by decide) ?_
          refine k_iald (f := xu) (n := 3) F hK hH 8 dX4_isDone_97 (by decide) rfl ?_
          obtain ⟨x5, hcl, hf⟩ := wp_b hf
          refine k_Si F hK hH hA hl.1 ⟨Nat.zero_le _, Nat.zero_le _⟩ [] [.int (xu (Int32.toNatClampNeg 2))] [] (ctX4_isCell (xu (Int32.toNatClampNeg 2)) hcl) (va_cwS 1 hts gX4_isDone_X4_isCell rfl rfl rfl hdSX4_isCell ⟨Nat.le_of_ble_eq_true rfl, Nat.le_of_ble_eq_true rfl⟩) dX4_isDone_98 rfl rfl (Nat.le_of_ble_eq_true rfl) rfl rfl (by decide) (fun H locs hH => ?_)
          have hH : Hs D A s.heap (wMd cI ad xs xm xi xw xh xl xr xe xn xo xp xu xd) H locs := hH
          refine lv_if_eq (tgt := 115) hx hb dX4_isDone_101 (by decide) (fun hc => ?_) (fun hc => ?_)
          · have hf := wp_t hc hf
            refine lv_iconst (v := 0) hx hb dX4_isDone_115 (by decide) ?_
            have hrs := wp_s hf
            subst hrs
            exact RET H locs ls 116 dX4_isDone_116 (by show narrow .boolean (.int 0) = .int 0; rfl) hH
          · have hf := wp_f hc hf
            refine lv_aload_n hx hb dX4_isDone_104 rfl (lv_at hl 2 rfl) ?_
            refine k_get (v := .ref (ad 1)) F hK hH 0 inX4_isDone_X4 0 mbX4_isDone_f9 dX4_isDone_105 rfl rfl (by decide) rfl ?_
            refine lv_iconst (v := 0) hx hb dX4_isDone_108 (by decide) ?_
            refine k_iald (f := xs) (n := 53) F hK hH 1 dX4_isDone_109 (by decide) rfl ?_
            refine lv_bipush (v := 7) hx hb dX4_isDone_110 (by decide) ?_
            refine lv_icmp_ne (tgt := 117) hx hb dX4_isDone_112 (by decide) (fun hc => ?_) (fun hc => ?_)
            · have hf := wp_f hc hf
              refine lv_iconst (v := 0) hx hb dX4_isDone_117 (by decide) ?_
              refine lv_istore (lv' := [(4, .int 0), (3, .int (xu (Int32.toNatClampNeg 1))), (2, .int (xu (Int32.toNatClampNeg 0))), (0, .ref (ad 0)), (1, .int v1)]) hx hb dX4_isDone_118 hl (by decide) rfl (fun ls hl => ?_)
              have LP : ∀ (Φ : ((Nat → Int32)) → Prop), (∀ (t8 : (Nat → Int32)) (H : Heap) (locs : List Loc) (ls : Array Slot), Φ (t8) → Hs D A s.heap (wMd cI ad t8 xm xi xw xh xl xr xe xn xo xp xu xd) H locs → lv_has ls 5 [(0, .ref (ad 0))] → W p l e rmX4_isDone s m args below meth c H locs 0 0 Q (F0 m 155 ls [])) → ∀ (n : Nat) (t6 : Int32) (t7 : (Nat → Int32)) (H : Heap) (locs : List Loc) (ls : Array Slot), wpO (lp (bX4_isDone_120 xu) n (t6, t7)) Φ → Hs D A s.heap (wMd cI ad t7 xm xi xw xh xl xr xe xn xo xp xu xd) H locs → lv_has ls 5 [(0, .ref (ad 0)), (4, .int t6)] → W p l e rmX4_isDone s m args below meth c H locs 0 0 Q (F0 m 120 ls []) := by
                intro Φ EX n
                induction n with
                | zero =>
                  intro t6 t7 H locs ls hf hH hl
                  exact (wp_l0 hf).elim
                | succ n ih =>
                  intro t6 t7 H locs ls hf hH hl
                  have hf := wp_l hf
                  refine lv_iload hx hb dX4_isDone_120 (lv_at hl 1 rfl) ?_
                  refine lv_iconst (v := 3) hx hb dX4_isDone_122 (by decide) ?_
                  refine lv_icmp_ge (tgt := 155) hx hb dX4_isDone_123 (by decide) (fun hc => ?_) (fun hc => ?_)
                  · have hf := wp_t hc hf
                    have hw := wp_out hf
                    exact EX _ _ _ _ hw hH (lv_sub hl [0] rfl)
                  · have hf := wp_f hc hf
                    refine lv_aload_n hx hb dX4_isDone_126 rfl (lv_at hl 0 rfl) ?_
                    refine k_get (v := .ref (ad 1)) F hK hH 0 inX4_isDone_X4 0 mbX4_isDone_f9 dX4_isDone_127 rfl rfl (by decide) rfl ?_
                    refine lv_aload_n hx hb dX4_isDone_130 rfl (lv_at hl 0 rfl) ?_
                    refine k_get (v := .ref (ad 1)) F hK hH 0 inX4_isDone_X4 0 mbX4_isDone_f9 dX4_isDone_131 rfl rfl (by decide) rfl ?_
                    refine lv_iconst (v := 0) hx hb dX4_isDone_134 (by decide) ?_
                    refine k_iald (f := t7) (n := 53) F hK hH 1 dX4_isDone_135 (by decide) rfl ?_
                    refine lv_iload hx hb dX4_isDone_136 (lv_at hl 1 rfl) ?_
                    obtain ⟨x9, hcl, hf⟩ := wp_b hf
                    refine k_Si F hK hH hA hl.1 ⟨Nat.zero_le _, Nat.zero_le _⟩ [] [.int (t7 (Int32.toNatClampNeg 0)), .int t6] [.ref (ad 1)] (ctX4_of (t7 (Int32.toNatClampNeg 0)) t6 hcl) (va_cwS 2 hts gX4_isDone_X4_of rfl rfl rfl hdSX4_of ⟨Nat.le_of_ble_eq_true rfl, Nat.le_of_ble_eq_true rfl⟩) dX4_isDone_138 rfl rfl (Nat.le_of_ble_eq_true rfl) rfl rfl (by decide) (fun H locs hH => ?_)
                    have hH : Hs D A s.heap (wMd cI ad t7 xm xi xw xh xl xr xe xn xo xp xu xd) H locs := hH
                    refine lv_aload_n hx hb dX4_isDone_141 rfl (lv_at hl 0 rfl) ?_
                    refine k_get (v := .ref (ad 8)) F hK hH 0 inX4_isDone_X4 11 mbX4_isDone_f31 dX4_isDone_142 rfl rfl (by decide) rfl ?_
                    refine lv_iload hx hb dX4_isDone_145 (lv_at hl 1 rfl) ?_
                    obtain ⟨hi, hf⟩ := wp_n hf
                    refine k_iald (f := xu) (n := 3) F hK hH 8 dX4_isDone_147 hi rfl ?_
                    obtain ⟨hi, hf⟩ := wp_n hf
                    refine k_iast (f := t7) (n := 53) F hK hH 1 dX4_isDone_148 hi rfl (fun H locs hH => ?_)
                    have hH : Hs D A s.heap (wMd cI ad (upd t7 (Int32.toNatClampNeg x9) (xu (Int32.toNatClampNeg t6))) xm xi xw xh xl xr xe xn xo xp xu xd) H locs := hH
                    refine lv_iinc (v := t6 + 1) (lv' := [(4, .int (t6 + 1)), (0, .ref (ad 0))]) hx hb dX4_isDone_149 hl (k := 1) rfl rfl (by decide) rfl (fun ls hl => ?_)
                    refine lv_goto (tgt := 120) hx hb dX4_isDone_152 (by decide) ?_
                    have hw := wp_in hf
                    exact ih _ _ _ _ _ hw hH (lv_sub hl [1, 0] rfl)
              refine LP _ (fun t8 H locs ls hf hH hl => ?_) fu _ _ _ _ _ (wp_bb hf) hH (lv_sub hl [3, 0] rfl)
              refine lv_aload_n hx hb dX4_isDone_155 rfl (lv_at hl 0 rfl) ?_
              refine k_get (v := .ref (ad 1)) F hK hH 0 inX4_isDone_X4 0 mbX4_isDone_f9 dX4_isDone_156 rfl rfl (by decide) rfl ?_
              refine lv_iconst (v := 0) hx hb dX4_isDone_159 (by decide) ?_
              refine lv_dup2_11 hx hb dX4_isDone_160 rfl rfl ?_
              refine k_iald (f := t8) (n := 53) F hK hH 1 dX4_isDone_161 (by decide) rfl ?_
              refine lv_iconst (v := 1) hx hb dX4_isDone_162 (by decide) ?_
              refine lv_iadd hx hb dX4_isDone_163 ?_
              refine k_iast (f := t8) (n := 53) F hK hH 1 dX4_isDone_164 (by decide) rfl (fun H locs hH => ?_)
              have hH : Hs D A s.heap (wMd cI ad (upd t8 (Int32.toNatClampNeg 0) ((t8 (Int32.toNatClampNeg 0)) + 1)) xm xi xw xh xl xr xe xn xo xp xu xd) H locs := hH
              refine lv_iconst (v := 1) hx hb dX4_isDone_165 (by decide) ?_
              have hrs := wp_s hf
              subst hrs
              exact RET H locs ls 166 dX4_isDone_166 (by show narrow .boolean (.int 1) = .int 1; rfl) hH
            · have hf := wp_t hc hf
              refine lv_iconst (v := 0) hx hb dX4_isDone_115 (by decide) ?_
              have hrs := wp_s hf
              subst hrs
              exact RET H locs ls 116 dX4_isDone_116 (by show narrow .boolean (.int 0) = .int 0; rfl) hH
        · have hf := wp_f hc3 hf
          by_cases hc4 : v1 = 118
          · have hf := wp_t hc4 hf
            refine lv_lookup (off := 152) (tgt := 167) hx hb dX4_isDone_15 rfl (by rw [hc4]; try rfl) (by decide) ?_
            refine lv_iload_n hx hb dX4_isDone_167 rfl (lv_at hl 0 rfl) ?_
            obtain ⟨x10, hcl, hf⟩ := wp_b hf
            refine k_Si F hK hH hA hl.1 ⟨Nat.zero_le _, Nat.zero_le _⟩ [] [.int (xu (Int32.toNatClampNeg 1))] [] (ctX4_isVerdict (xu (Int32.toNatClampNeg 1)) hcl) (va_cwS 1 hts gX4_isDone_X4_isVerdict rfl rfl rfl hdSX4_isVerdict ⟨Nat.le_of_ble_eq_true rfl, Nat.le_of_ble_eq_true rfl⟩) dX4_isDone_168 rfl rfl (Nat.le_of_ble_eq_true rfl) rfl rfl (by decide) (fun H locs hH => ?_)
            have hH : Hs D A s.heap (wMd cI ad xs xm xi xw xh xl xr xe xn xo xp xu xd) H locs := hH
            refine lv_if_ne (tgt := 176) hx hb dX4_isDone_171 (by decide) (fun hc => ?_) (fun hc => ?_)
            · have hf := wp_f hc hf
              refine lv_aload_n hx hb dX4_isDone_176 rfl (lv_at hl 2 rfl) ?_
              refine k_get (v := .ref (ad 1)) F hK hH 0 inX4_isDone_X4 0 mbX4_isDone_f9 dX4_isDone_177 rfl rfl (by decide) rfl ?_
              refine lv_bipush (v := 20) hx hb dX4_isDone_180 (by decide) ?_
              refine lv_iload_n hx hb dX4_isDone_182 rfl (lv_at hl 1 rfl) ?_
              refine lv_iadd hx hb dX4_isDone_183 ?_
              refine lv_iload_n hx hb dX4_isDone_184 rfl (lv_at hl 0 rfl) ?_
              obtain ⟨hi, hf⟩ := wp_n hf
              refine k_iast (f := xs) (n := 53) F hK hH 1 dX4_isDone_185 hi rfl (fun H locs hH => ?_)
              have hH : Hs D A s.heap (wMd cI ad (upd xs (Int32.toNatClampNeg (20 + (xu (Int32.toNatClampNeg 0)))) (xu (Int32.toNatClampNeg 1))) xm xi xw xh xl xr xe xn xo xp xu xd) H locs := hH
              refine lv_aload_n hx hb dX4_isDone_186 rfl (lv_at hl 2 rfl) ?_
              refine k_get (v := .ref (ad 1)) F hK hH 0 inX4_isDone_X4 0 mbX4_isDone_f9 dX4_isDone_187 rfl rfl (by decide) rfl ?_
              refine lv_bipush (v := 26) hx hb dX4_isDone_190 (by decide) ?_
              refine lv_iload_n hx hb dX4_isDone_192 rfl (lv_at hl 1 rfl) ?_
              refine lv_iadd hx hb dX4_isDone_193 ?_
              refine lv_aload_n hx hb dX4_isDone_194 rfl (lv_at hl 2 rfl) ?_
              refine k_get (v := .ref (ad 8)) F hK hH 0 inX4_isDone_X4 11 mbX4_isDone_f31 dX4_isDone_195 rfl rfl (by decide) rfl ?_
              refine lv_iconst (v := 2) hx hb dX4_isDone_198 (by decide) ?_
              refine k_iald (f := xu) (n := 3) F hK hH 8 dX4_isDone_199 (by decide) rfl ?_
              obtain ⟨hi, hf⟩ := wp_n hf
              refine k_iast (f := upd xs (Int32.toNatClampNeg (20 + (xu (Int32.toNatClampNeg 0)))) (xu (Int32.toNatClampNeg 1))) (n := 53) F hK hH 1 dX4_isDone_200 hi rfl (fun H locs hH => ?_)
              have hH : Hs D A s.heap (wMd cI ad (upd (upd xs (Int32.toNatClampNeg (20 + (xu (Int32.toNatClampNeg 0)))) (xu (Int32.toNatClampNeg 1))) (Int32.toNatClampNeg (26 + (xu (Int32.toNatClampNeg 0)))) (xu (Int32.toNatClampNeg 2))) xm xi xw xh xl xr xe xn xo xp xu xd) H locs := hH
              refine lv_iconst (v := 1) hx hb dX4_isDone_201 (by decide) ?_
              have hrs := wp_s hf
              subst hrs
              exact RET H locs ls 202 dX4_isDone_202 (by show narrow .boolean (.int 1) = .int 1; rfl) hH
            · have hf := wp_t hc hf
              refine lv_iconst (v := 0) hx hb dX4_isDone_174 (by decide) ?_
              have hrs := wp_s hf
              subst hrs
              exact RET H locs ls 175 dX4_isDone_175 (by show narrow .boolean (.int 0) = .int 0; rfl) hH
          · have hf := wp_f hc4 hf
            by_cases hc5 : v1 = 120
            · have hf := wp_t hc5 hf
              refine lv_lookup (off := 207) (tgt := 222) hx hb dX4_isDone_15 rfl (by rw [hc5]; try rfl) (by decide) ?_
              refine lv_aload_n hx hb dX4_isDone_222 rfl (lv_at hl 2 rfl) ?_
              refine lv_iload_n hx hb dX4_isDone_223 rfl (lv_at hl 1 rfl) ?_
              obtain ⟨x11, hcl, hf⟩ := wp_b hf
              refine k_Vi0 F hK hH hA hl.1 ⟨Nat.zero_le _, Nat.zero_le _⟩ [.int (xu (Int32.toNatClampNeg 0))] [] (ctX4_isThing ad xs xm xi xw xh xl xr xe xn xo xp xu xd (xu (Int32.toNatClampNeg 0)) hcl) (cwV 1 hts gX4_isDone_X4_isThing rfl rfl rfl hdVX4_isThing ⟨Nat.le_of_ble_eq_true rfl, Nat.le_of_ble_eq_true rfl⟩) dX4_isDone_224 0 rfl rfl rfl rfl rfl (Nat.le_of_ble_eq_true rfl) rfl (fun H locs hH => ?_)
              have hH : Hs D A s.heap (wMd cI ad xs xm xi xw xh xl xr xe xn xo xp xu xd) H locs := hH
              refine lv_if_ne (tgt := 232) hx hb dX4_isDone_227 (by decide) (fun hc => ?_) (fun hc => ?_)
              · have hf := wp_f hc hf
                refine lv_aload_n hx hb dX4_isDone_232 rfl (lv_at hl 2 rfl) ?_
                refine k_get (v := .ref (ad 1)) F hK hH 0 inX4_isDone_X4 0 mbX4_isDone_f9 dX4_isDone_233 rfl rfl (by decide) rfl ?_
                refine lv_iconst (v := 3) hx hb dX4_isDone_236 (by decide) ?_
                refine lv_dup2_11 hx hb dX4_isDone_237 rfl rfl ?_
                refine k_iald (f := xs) (n := 53) F hK hH 1 dX4_isDone_238 (by decide) rfl ?_
                refine lv_iconst (v := 1) hx hb dX4_isDone_239 (by decide) ?_
                refine lv_iload_n hx hb dX4_isDone_240 rfl (lv_at hl 1 rfl) ?_
                refine lv_ishl hx hb dX4_isDone_241 ?_
                refine lv_ixor hx hb dX4_isDone_242 ?_
                refine k_iast (f := xs) (n := 53) F hK hH 1 dX4_isDone_243 (by decide) rfl (fun H locs hH => ?_)
                have hH : Hs D A s.heap (wMd cI ad (upd xs (Int32.toNatClampNeg 3) ((xs (Int32.toNatClampNeg 3)) ^^^ ((1 : Int32) <<< ((xu (Int32.toNatClampNeg 0)) &&& 31)))) xm xi xw xh xl xr xe xn xo xp xu xd) H locs := hH
                refine lv_iconst (v := 1) hx hb dX4_isDone_244 (by decide) ?_
                have hrs := wp_s hf
                subst hrs
                exact RET H locs ls 245 dX4_isDone_245 (by show narrow .boolean (.int 1) = .int 1; rfl) hH
              · have hf := wp_t hc hf
                refine lv_iconst (v := 0) hx hb dX4_isDone_230 (by decide) ?_
                have hrs := wp_s hf
                subst hrs
                exact RET H locs ls 231 dX4_isDone_231 (by show narrow .boolean (.int 0) = .int 0; rfl) hH
            · have hf := wp_f hc5 hf
              refine lv_lookup (off := 261) (tgt := 276) hx hb dX4_isDone_15 rfl (by show Op.lookupswitch.offset [(99, 57), (100, 231), (101, 188), (116, 77), (118, 152), (120, 207)] 261 (Int32.toInt v1) = 261; rw [lv_osw (a := 99) hc0 rfl, lv_osw (a := 100) hc1 rfl, lv_osw (a := 101) hc2 rfl, lv_osw (a := 116) hc3 rfl, lv_osw (a := 118) hc4 rfl, lv_osw (a := 120) hc5 rfl]; try rfl) (by decide) ?_
              refine lv_iload_n hx hb dX4_isDone_276 rfl (lv_at hl 1 rfl) ?_
              refine lv_iconst (v := 1) hx hb dX4_isDone_277 (by decide) ?_
              refine lv_bipush (v := 60) hx hb dX4_isDone_278 (by decide) ?_
              obtain ⟨x12, hcl, hf⟩ := wp_b hf
              refine k_Si F hK hH hA hl.1 ⟨Nat.zero_le _, Nat.zero_le _⟩ [] [.int (xu (Int32.toNatClampNeg 0)), .int 1, .int 60] [] (ctX4_isIn (xu (Int32.toNatClampNeg 0)) 1 60 hcl) (va_cwS 3 hts gX4_isDone_X4_isIn rfl rfl rfl hdSX4_isIn ⟨Nat.le_of_ble_eq_true rfl, Nat.le_of_ble_eq_true rfl⟩) dX4_isDone_280 rfl rfl (Nat.le_of_ble_eq_true rfl) rfl rfl (by decide) (fun H locs hH => ?_)
              have hH : Hs D A s.heap (wMd cI ad xs xm xi xw xh xl xr xe xn xo xp xu xd) H locs := hH
              refine lv_if_eq (tgt := 300) hx hb dX4_isDone_283 (by decide) (fun hc => ?_) (fun hc => ?_)
              · have hf := wp_t hc hf
                refine lv_iconst (v := 0) hx hb dX4_isDone_300 (by decide) ?_
                have hrs := wp_s hf
                subst hrs
                exact RET H locs ls 301 dX4_isDone_301 (by show narrow .boolean (.int 0) = .int 0; rfl) hH
              · have hf := wp_f hc hf
                refine lv_aload_n hx hb dX4_isDone_286 rfl (lv_at hl 2 rfl) ?_
                refine k_get (v := .ref (ad 1)) F hK hH 0 inX4_isDone_X4 0 mbX4_isDone_f9 dX4_isDone_287 rfl rfl (by decide) rfl ?_
                refine lv_iconst (v := 1) hx hb dX4_isDone_290 (by decide) ?_
                refine k_iald (f := xs) (n := 53) F hK hH 1 dX4_isDone_291 (by decide) rfl ?_
                refine lv_iload_n hx hb dX4_isDone_292 rfl (lv_at hl 1 rfl) ?_
                refine lv_iadd hx hb dX4_isDone_293 ?_
                refine lv_sipush (v := 999) hx hb dX4_isDone_294 (by decide) ?_
                refine lv_icmp_le (tgt := 302) hx hb dX4_isDone_297 (by decide) (fun hc => ?_) (fun hc => ?_)
                · have hf := wp_t hc hf
                  refine lv_aload_n hx hb dX4_isDone_302 rfl (lv_at hl 2 rfl) ?_
                  refine k_get (v := .ref (ad 1)) F hK hH 0 inX4_isDone_X4 0 mbX4_isDone_f9 dX4_isDone_303 rfl rfl (by decide) rfl ?_
                  refine lv_iload_n hx hb dX4_isDone_306 rfl (lv_at hl 1 rfl) ?_
                  obtain ⟨x13, hcl, hf⟩ := wp_b hf
                  refine k_Sv F hK hH hA hl.1 ⟨Nat.zero_le _, Nat.zero_le _⟩ [1] [.ref (ad 1), .int (xu (Int32.toNatClampNeg 0))] [] (ctX4_hoursOn (ad 1) xs (xu (Int32.toNatClampNeg 0)) hcl) (va_cwS 2 hts gX4_isDone_X4_hoursOn rfl rfl rfl hdSX4_hoursOn ⟨Nat.le_of_ble_eq_true rfl, Nat.le_of_ble_eq_true rfl⟩) dX4_isDone_307 rfl rfl (Nat.le_of_ble_eq_true rfl) rfl rfl (by decide) (fun H locs hH => ?_)
                  have hH : Hs D A s.heap (wMd cI ad x13 xm xi xw xh xl xr xe xn xo xp xu xd) H locs := hH
                  refine lv_iconst (v := 1) hx hb dX4_isDone_310 (by decide) ?_
                  have hrs := wp_s hf
                  subst hrs
                  exact RET H locs ls 311 dX4_isDone_311 (by show narrow .boolean (.int 1) = .int 1; rfl) hH
                · have hf := wp_f hc hf
                  refine lv_iconst (v := 0) hx hb dX4_isDone_300 (by decide) ?_
                  have hrs := wp_s hf
                  subst hrs
                  exact RET H locs ls 301 dX4_isDone_301 (by show narrow .boolean (.int 0) = .int 0; rfl) hH

def bX4_land_10 (xl : (Nat → Int32)) (xn : Int32) : (Int32 × Int32 × Int32 × (Nat → Int32)) → Option ((Int32 × Int32 × Int32 × (Nat → Int32)) ⊕ (Int32 × Int32 × Int32 × (Nat → Int32))) := fun ((t1, t2, t3, t4) : Int32 × Int32 × Int32 × (Nat → Int32)) =>
  Option.bind (fX4_readsStatement xl xn t3 t4) fun x9 =>
  Option.bind (if x9.1 = 0 then
      some ((-1000) - x9.2.1)
    else
      some t2) fun (t10 : Int32) =>
  if t10 = (-9) then
    if x9.2.1 < xn then
      some (.inl (t1 + 1, t10, x9.2.1, x9.2.2))
    else
      some (.inr (t1 + 1, t10, x9.2.1, x9.2.2))
  else
    some (.inr (t1 + 1, t10, x9.2.1, x9.2.2))

def bX4_land_62 (xl : (Nat → Int32)) (xn : Int32) (x11 : ((Nat → Int32))) : (Int32 × (Nat → Int32) × Int32 × (Nat → Int32)) → Option ((Int32 × (Nat → Int32) × Int32 × (Nat → Int32)) ⊕ (Int32 × (Nat → Int32) × Int32 × (Nat → Int32))) := fun ((t12, t13, t14, t15) : Int32 × (Nat → Int32) × Int32 × (Nat → Int32)) =>
  if t12 = (-9) then
    if xn ≤ t14 then
      some (.inr (t12, t13, t14, t15))
    else
      Option.bind (fX4_here xl xn t14) fun x20 =>
      Option.bind (fX4_readsStatement xl xn t14 t15) fun x21 =>
      Option.bind (fX4_isDone x20 t13 x21.2.2) fun x22 =>
      if x22.1 = 0 then
        Option.bind (fX4_copies x11 x22.2) fun x23 =>
        some (.inl ((-2000) - t14, x23, x21.2.1, x21.2.2))
      else
        some (.inl (t12, x22.2, x21.2.1, x21.2.2))
  else
    some (.inr (t12, t13, t14, t15))

def fX4_land (xs : (Nat → Int32)) (xw : (Nat → Int32)) (xl : (Nat → Int32)) (xn : Int32) (xp : Int32) (xu : (Nat → Int32)) : Option (Int32 × (Nat → Int32) × (Nat → Int32) × Int32 × Int32 × (Nat → Int32)) :=
  Option.bind (lp (bX4_land_10 xl xn) fu (0, (-9), 0, xu)) fun ((t5, t6, t7, t8) : Int32 × Int32 × Int32 × (Nat → Int32)) =>
  Option.bind (fX4_copies xs xw) fun x11 =>
  Option.bind (lp (bX4_land_62 xl xn x11) fu (t6, xs, 0, t8)) fun ((t16, t17, t18, t19) : Int32 × (Nat → Int32) × Int32 × (Nat → Int32)) =>
  if t16 = (-9) then
    some (t5, t17, x11, 0, t18, t19)
  else
    some (t16, t17, x11, 0, t18, t19)

def rmX4_land : Room := { frames := 4, cells := 0, slots := 0, locals := 89 }
theorem mbX4_land_f84 : Cond.fieldLink RX4 84 (TX4 10).1 (TX4 10).2.1 (TX4 10).2.2.1 ∈ wsX4_land := by decide +kernel
theorem inX4_land_X4 : ∀ w ∈ wsX40, w ∈ wsX4_land := by decide +kernel
theorem mbX4_land_f80 : Cond.fieldLink RX4 80 (TX4 8).1 (TX4 8).2.1 (TX4 8).2.2.1 ∈ wsX4_land := by decide +kernel
theorem mbX4_land_f9 : Cond.fieldLink RX4 9 (TX4 0).1 (TX4 0).2.1 (TX4 0).2.2.1 ∈ wsX4_land := by decide +kernel
theorem mbX4_land_f19 : Cond.fieldLink RX4 19 (TX4 3).1 (TX4 3).2.1 (TX4 3).2.2.1 ∈ wsX4_land := by decide +kernel
theorem hdVX4_land : yX4_land.cls = RX4 ∧ yX4_land.cls ≠ "java/lang/invoke/MethodHandle" ∧ yX4_land.cls ≠ "java/lang/invoke/VarHandle" ∧ (parseMethodDescriptor yX4_land.desc).map (fun d => d.parameters.length) = some 0 := by decide +kernel
set_option maxHeartbeats 4000000 in
set_option maxRecDepth 100000 in
theorem ctX4_land {l : Launch} {D : va_G} {cI cJ cQ : ClassId} (ad : Nat → Nat) (xs : (Nat → Int32)) (xm : (Nat → Int32)) (xi : (Nat → Int32)) (xw : (Nat → Int32)) (xh : Int32) (xl : (Nat → Int32)) (xr : (Nat → Int32)) (xe : (Nat → Int32)) (xn : Int32) (xo : Int32) (xp : Int32) (xu : (Nat → Int32)) (xd : Int32)  {res : Int32 × (Nat → Int32) × (Nat → Int32) × Int32 × Int32 × (Nat → Int32)} (h : fX4_land xs xw xl xn xp xu = some res) : CtI l D cI cJ cQ yX4_land wsX4_land rmX4_land [.ref (ad 0)] (wMd cI ad xs xm xi xw xh xl xr xe xn xo xp xu xd) res.1 (wMd cI ad res.2.1 xm xi res.2.2.1 xh xl xr xe res.2.2.2.1 xo res.2.2.2.2.1 res.2.2.2.2.2 xd) := by
  refine ctI_of .int (cc := cX4_land) (maxL := 6) (by decide) rfl (Nat.le_of_ble_eq_true rfl) ?_
  intro p e s m args below meth c A Q ls F hK hA RET hH hl
  obtain ⟨hx, hb, hml, hown, hts⟩ := id F
  have hl : lv_has ls 6 [(0, .ref (ad 0))] := hl
  have hf : wpO (fX4_land xs xw xl xn xp xu) (fun v => v = res) := ⟨_, h, rfl⟩
  obtain ⟨H, eH⟩ : ∃ H, H = s.heap := ⟨_, rfl⟩
  obtain ⟨locs, eL⟩ : ∃ locs : List Loc, locs = [] := ⟨_, rfl⟩
  have hH : Hs D A s.heap (wMd cI ad xs xm xi xw xh xl xr xe xn xo xp xu xd) H locs := by rw [eH, eL]; exact hH
  rw [← eL]
  suffices hgo : W p l e rmX4_land s m args below meth c H locs 0 0 Q (F0 m 0 ls []) by rw [eH] at hgo; exact hgo
  clear eH eL
  refine lv_aload_n hx hb dX4_land_0 rfl (lv_at hl 0 rfl) ?_
  refine lv_iconst (v := 0) hx hb dX4_land_1 (by decide) ?_
  refine k_put (v := .int 0) F hK hH 0 inX4_land_X4 tyX4 tyX4_ok nmX4 10 mbX4_land_f84 dX4_land_2 rfl rfl (by decide) rfl rfl rfl (Nat.le_of_ble_eq_true rfl) (fun H locs hH => ?_)
  have hH : Hs D A s.heap (wMd cI ad xs xm xi xw xh xl xr xe xn xo 0 xu xd) H locs := hH
  refine lv_iconst (v := 0) hx hb dX4_land_5 (by decide) ?_
  refine lv_istore_n (lv' := [(1, .int 0), (0, .ref (ad 0))]) hx hb dX4_land_6 rfl hl (by decide) rfl (fun ls hl => ?_)
  refine lv_bipush (v := (-9)) hx hb dX4_land_7 (by decide) ?_
  refine lv_istore_n (lv' := [(2, .int (-9)), (1, .int 0), (0, .ref (ad 0))]) hx hb dX4_land_9 rfl hl (by decide) rfl (fun ls hl => ?_)
  have LP : ∀ (Φ : (Int32 × Int32 × Int32 × (Nat → Int32)) → Prop), (∀ (t5 : Int32) (t6 : Int32) (t7 : Int32) (t8 : (Nat → Int32)) (H : Heap) (locs : List Loc) (ls : Array Slot), Φ ((t5, t6, t7, t8)) → Hs D A s.heap (wMd cI ad xs xm xi xw xh xl xr xe xn xo t7 t8 xd) H locs → lv_has ls 6 [(0, .ref (ad 0)), (1, .int t5), (2, .int t6)] → W p l e rmX4_land s m args below meth c H locs 0 0 Q (F0 m 46 ls [])) → ∀ (n : Nat) (t1 : Int32) (t2 : Int32) (t3 : Int32) (t4 : (Nat → Int32)) (H : Heap) (locs : List Loc) (ls : Array Slot), wpO (lp (bX4_land_10 xl xn) n (t1, t2, t3, t4)) Φ → Hs D A s.heap (wMd cI ad xs xm xi xw xh xl xr xe xn xo t3 t4 xd) H locs → lv_has ls 6 [(0, .ref (ad 0)), (1, .int t1), (2, .int t2)] → W p l e rmX4_land s m args below meth c H locs 0 0 Q (F0 m 10 ls []) := by
    intro Φ EX n
    induction n with
    | zero =>
      intro t1 t2 t3 t4 H locs ls hf hH hl
      exact (wp_l0 hf).elim
    | succ n ih =>
      intro t1 t2 t3 t4 H locs ls hf hH hl
      have hf := wp_l hf
      refine lv_aload_n hx hb dX4_land_10 rfl (lv_at hl 0 rfl) ?_
      obtain ⟨x9, hcl, hf⟩ := wp_b hf
      refine k_Vi0 F hK hH hA hl.1 ⟨Nat.zero_le _, Nat.zero_le _⟩ [] [] (ctX4_readsStatement ad xs xm xi xw xh xl xr xe xn xo t3 t4 xd hcl) (cwV 0 hts gX4_land_X4_readsStatement rfl rfl rfl hdVX4_readsStatement ⟨Nat.le_of_ble_eq_true rfl, Nat.le_of_ble_eq_true rfl⟩) dX4_land_11 0 rfl rfl rfl rfl rfl (Nat.le_of_ble_eq_true rfl) rfl (fun H locs hH => ?_)
      have hH : Hs D A s.heap (wMd cI ad xs xm xi xw xh xl xr xe xn xo x9.2.1 x9.2.2 xd) H locs := hH
      refine W.eq (g2 := F0 m 14 ls [.int x9.1]) rfl ?_
      refine join_ (α := Int32) (fun Φ => ∀ (t10 : Int32) (H : Heap) (locs : List Loc) (ls : Array Slot), Φ t10 → Hs D A s.heap (wMd cI ad xs xm xi xw xh xl xr xe xn xo x9.2.1 x9.2.2 xd) H locs → lv_has ls 6 [(0, .ref (ad 0)), (1, .int t1), (2, .int t10)] → W p l e rmX4_land s m args below meth c H locs 0 0 Q (F0 m 26 ls [])) (wp_bb hf) ?_ ?_
      · intro t10 H locs ls hf hH hl
        refine lv_iinc (v := t1 + 1) (lv' := [(1, .int (t1 + 1)), (0, .ref (ad 0)), (2, .int t10)]) hx hb dX4_land_26 hl (k := 1) rfl rfl (by decide) rfl (fun ls hl => ?_)
        refine lv_iload_n hx hb dX4_land_29 rfl (lv_at hl 2 rfl) ?_
        refine lv_bipush (v := (-9)) hx hb dX4_land_30 (by decide) ?_
        refine lv_icmp_ne (tgt := 46) hx hb dX4_land_32 (by decide) (fun hc => ?_) (fun hc => ?_)
        · have hf := wp_f hc hf
          have hw := wp_out hf
          exact EX _ _ _ _ _ _ _ hw hH (lv_sub hl [1, 0, 2] rfl)
        · have hf := wp_t hc hf
          refine lv_aload_n hx hb dX4_land_35 rfl (lv_at hl 1 rfl) ?_
          refine k_get (v := .int x9.2.1) F hK hH 0 inX4_land_X4 10 mbX4_land_f84 dX4_land_36 rfl rfl (by decide) rfl ?_
          refine lv_aload_n hx hb dX4_land_39 rfl (lv_at hl 1 rfl) ?_
          refine k_get (v := .int xn) F hK hH 0 inX4_land_X4 8 mbX4_land_f80 dX4_land_40 rfl rfl (by decide) rfl ?_
          refine lv_icmp_lt (tgt := 10) hx hb dX4_land_43 (by decide) (fun hc => ?_) (fun hc => ?_)
          · have hf := wp_t hc hf
            have hw := wp_in hf
            exact ih _ _ _ _ _ _ _ hw hH (lv_sub hl [1, 0, 2] rfl)
          · have hf := wp_f hc hf
            have hw := wp_out hf
            exact EX _ _ _ _ _ _ _ hw hH (lv_sub hl [1, 0, 2] rfl)
      · intro Φ JJ hf
        refine lv_if_ne (tgt := 26) hx hb dX4_land_14 (by decide) (fun hc => ?_) (fun hc => ?_)
        · have hf := wp_f hc hf
          have hw := wp_s hf
          exact JJ _ _ _ _ hw hH (lv_sub hl [0, 1, 2] rfl)
        · have hf := wp_t hc hf
          refine lv_sipush (v := (-1000)) hx hb dX4_land_17 (by decide) ?_
          refine lv_aload_n hx hb dX4_land_20 rfl (lv_at hl 0 rfl) ?_
          refine k_get (v := .int x9.2.1) F hK hH 0 inX4_land_X4 10 mbX4_land_f84 dX4_land_21 rfl rfl (by decide) rfl ?_
          refine lv_isub hx hb dX4_land_24 ?_
          refine lv_istore_n (lv' := [(2, .int ((-1000) - x9.2.1)), (0, .ref (ad 0)), (1, .int t1)]) hx hb dX4_land_25 rfl hl (by decide) rfl (fun ls hl => ?_)
          have hw := wp_s hf
          exact JJ _ _ _ _ hw hH (lv_sub hl [1, 2, 0] rfl)
  refine LP _ (fun t5 t6 t7 t8 H locs ls hf hH hl => ?_) fu _ _ _ _ _ _ _ (wp_bb hf) hH (lv_sub hl [2, 1, 0] rfl)
  refine lv_aload_n hx hb dX4_land_46 rfl (lv_at hl 0 rfl) ?_
  refine k_get (v := .ref (ad 1)) F hK hH 0 inX4_land_X4 0 mbX4_land_f9 dX4_land_47 rfl rfl (by decide) rfl ?_
  refine lv_aload_n hx hb dX4_land_50 rfl (lv_at hl 0 rfl) ?_
  refine k_get (v := .ref (ad 4)) F hK hH 0 inX4_land_X4 3 mbX4_land_f19 dX4_land_51 rfl rfl (by decide) rfl ?_
  obtain ⟨x11, hcl, hf⟩ := wp_b hf
  refine k_Sv F hK hH hA hl.1 ⟨Nat.zero_le _, Nat.zero_le _⟩ [1, 4] [.ref (ad 1), .ref (ad 4)] [] (ctX4_copies (ad 1) (ad 4) xs xw hcl) (va_cwS 2 hts gX4_land_X4_copies rfl rfl rfl hdSX4_copies ⟨Nat.le_of_ble_eq_true rfl, Nat.le_of_ble_eq_true rfl⟩) dX4_land_54 rfl rfl (Nat.le_of_ble_eq_true rfl) rfl rfl (by decide) (fun H locs hH => ?_)
  have hH : Hs D A s.heap (wMd cI ad xs xm xi x11 xh xl xr xe xn xo t7 t8 xd) H locs := hH
  refine lv_aload_n hx hb dX4_land_57 rfl (lv_at hl 0 rfl) ?_
  refine lv_iconst (v := 0) hx hb dX4_land_58 (by decide) ?_
  refine k_put (v := .int 0) F hK hH 0 inX4_land_X4 tyX4 tyX4_ok nmX4 10 mbX4_land_f84 dX4_land_59 rfl rfl (by decide) rfl rfl rfl (Nat.le_of_ble_eq_true rfl) (fun H locs hH => ?_)
  have hH : Hs D A s.heap (wMd cI ad xs xm xi x11 xh xl xr xe xn xo 0 t8 xd) H locs := hH
  have LP : ∀ (Φ : (Int32 × (Nat → Int32) × Int32 × (Nat → Int32)) → Prop), (∀ (t16 : Int32) (t17 : (Nat → Int32)) (t18 : Int32) (t19 : (Nat → Int32)) (H : Heap) (locs : List Loc) (ls : Array Slot), Φ ((t16, t17, t18, t19)) → Hs D A s.heap (wMd cI ad t17 xm xi x11 xh xl xr xe xn xo t18 t19 xd) H locs → lv_has ls 6 [(0, .ref (ad 0)), (1, .int t5), (2, .int t16)] → W p l e rmX4_land s m args below meth c H locs 0 0 Q (F0 m 128 ls [])) → ∀ (n : Nat) (t12 : Int32) (t13 : (Nat → Int32)) (t14 : Int32) (t15 : (Nat → Int32)) (H : Heap) (locs : List Loc) (ls : Array Slot), wpO (lp (bX4_land_62 xl xn x11) n (t12, t13, t14, t15)) Φ → Hs D A s.heap (wMd cI ad t13 xm xi x11 xh xl xr xe xn xo t14 t15 xd) H locs → lv_has ls 6 [(0, .ref (ad 0)), (1, .int t5), (2, .int t12)] → W p l e rmX4_land s m args below meth c H locs 0 0 Q (F0 m 62 ls []) := by
    intro Φ EX n
    induction n with
    | zero =>
      intro t12 t13 t14 t15 H locs ls hf hH hl
      exact (wp_l0 hf).elim
    | succ n ih =>
      intro t12 t13 t14 t15 H locs ls hf hH hl
      have hf := wp_l hf
      refine lv_iload_n hx hb dX4_land_62 rfl (lv_at hl 2 rfl) ?_
      refine lv_bipush (v := (-9)) hx hb dX4_land_63 (by decide) ?_
      refine lv_icmp_ne (tgt := 128) hx hb dX4_land_65 (by decide) (fun hc => ?_) (fun hc => ?_)
      · have hf := wp_f hc hf
        have hw := wp_out hf
        exact EX _ _ _ _ _ _ _ hw hH (lv_sub hl [0, 1, 2] rfl)
      · have hf := wp_t hc hf
        refine lv_aload_n hx hb dX4_land_68 rfl (lv_at hl 0 rfl) ?_
        refine k_get (v := .int t14) F hK hH 0 inX4_land_X4 10 mbX4_land_f84 dX4_land_69 rfl rfl (by decide) rfl ?_
        refine lv_aload_n hx hb dX4_land_72 rfl (lv_at hl 0 rfl) ?_
        refine k_get (v := .int xn) F hK hH 0 inX4_land_X4 8 mbX4_land_f80 dX4_land_73 rfl rfl (by decide) rfl ?_
        refine lv_icmp_ge (tgt := 128) hx hb dX4_land_76 (by decide) (fun hc => ?_) (fun hc => ?_)
        · have hf := wp_t hc hf
          have hw := wp_out hf
          exact EX _ _ _ _ _ _ _ hw hH (lv_sub hl [0, 1, 2] rfl)
        · have hf := wp_f hc hf
          refine lv_aload_n hx hb dX4_land_79 rfl (lv_at hl 0 rfl) ?_
          refine k_get (v := .int t14) F hK hH 0 inX4_land_X4 10 mbX4_land_f84 dX4_land_80 rfl rfl (by decide) rfl ?_
          refine lv_istore_n (lv' := [(3, .int t14), (0, .ref (ad 0)), (1, .int t5), (2, .int t12)]) hx hb dX4_land_83 rfl hl (by decide) rfl (fun ls hl => ?_)
          refine lv_aload_n hx hb dX4_land_84 rfl (lv_at hl 1 rfl) ?_
          obtain ⟨x20, hcl, hf⟩ := wp_b hf
          refine k_Vi0 F hK hH hA hl.1 ⟨Nat.zero_le _, Nat.zero_le _⟩ [] [] (ctX4_here ad t13 xm xi x11 xh xl xr xe xn xo t14 t15 xd hcl) (cwV 0 hts gX4_land_X4_here rfl rfl rfl hdVX4_here ⟨Nat.le_of_ble_eq_true rfl, Nat.le_of_ble_eq_true rfl⟩) dX4_land_85 0 rfl rfl rfl rfl rfl (Nat.le_of_ble_eq_true rfl) rfl (fun H locs hH => ?_)
          have hH : Hs D A s.heap (wMd cI ad t13 xm xi x11 xh xl xr xe xn xo t14 t15 xd) H locs := hH
          refine lv_istore (lv' := [(4, .int x20), (3, .int t14), (0, .ref (ad 0)), (1, .int t5), (2, .int t12)]) hx hb dX4_land_88 hl (by decide) rfl (fun ls hl => ?_)
          refine lv_aload_n hx hb dX4_land_90 rfl (lv_at hl 2 rfl) ?_
          obtain ⟨x21, hcl, hf⟩ := wp_b hf
          refine k_Vi0 F hK hH hA hl.1 ⟨Nat.zero_le _, Nat.zero_le _⟩ [] [] (ctX4_readsStatement ad t13 xm xi x11 xh xl xr xe xn xo t14 t15 xd hcl) (cwV 0 hts gX4_land_X4_readsStatement rfl rfl rfl hdVX4_readsStatement ⟨Nat.le_of_ble_eq_true rfl, Nat.le_of_ble_eq_true rfl⟩) dX4_land_91 0 rfl rfl rfl rfl rfl (Nat.le_of_ble_eq_true rfl) rfl (fun H locs hH => ?_)
          have hH : Hs D A s.heap (wMd cI ad t13 xm xi x11 xh xl xr xe xn xo x21.2.1 x21.2.2 xd) H locs := hH
          refine W.eq (g2 := F0 m 94 ls [.int x21.1]) rfl ?_
          refine lv_istore (lv' := [(5, .int x21.1), (4, .int x20), (3, .int t14), (0, .ref (ad 0)), (1, .int t5), (2, .int t12)]) hx hb dX4_land_94 hl (by decide) rfl (fun ls hl => ?_)
          refine lv_aload_n hx hb dX4_land_96 rfl (lv_at hl 3 rfl) ?_
          refine lv_iload hx hb dX4_land_97 (lv_at hl 1 rfl) ?_
          obtain ⟨x22, hcl, hf⟩ := wp_b hf
          refine k_Vi0 F hK hH hA hl.1 ⟨Nat.zero_le _, Nat.zero_le _⟩ [.int x20] [] (ctX4_isDone ad t13 xm xi x11 xh xl xr xe xn xo x21.2.1 x21.2.2 xd x20 hcl) (cwV 1 hts gX4_land_X4_isDone rfl rfl rfl hdVX4_isDone ⟨Nat.le_of_ble_eq_true rfl, Nat.le_of_ble_eq_true rfl⟩) dX4_land_99 0 rfl rfl rfl rfl rfl (Nat.le_of_ble_eq_true rfl) rfl (fun H locs hH => ?_)
          have hH : Hs D A s.heap (wMd cI ad x22.2 xm xi x11 xh xl xr xe xn xo x21.2.1 x21.2.2 xd) H locs := hH
          refine W.eq (g2 := F0 m 102 ls [.int x22.1]) rfl ?_
          refine lv_if_eq (tgt := 108) hx hb dX4_land_102 (by decide) (fun hc => ?_) (fun hc => ?_)
          · have hf := wp_t hc hf
            refine lv_sipush (v := (-2000)) hx hb dX4_land_108 (by decide) ?_
            refine lv_iload_n hx hb dX4_land_111 rfl (lv_at hl 2 rfl) ?_
            refine lv_isub hx hb dX4_land_112 ?_
            refine lv_istore_n (lv' := [(2, .int ((-2000) - t14)), (5, .int x21.1), (4, .int x20), (3, .int t14), (0, .ref (ad 0)), (1, .int t5)]) hx hb dX4_land_113 rfl hl (by decide) rfl (fun ls hl => ?_)
            refine lv_aload_n hx hb dX4_land_114 rfl (lv_at hl 4 rfl) ?_
            refine k_get (v := .ref (ad 4)) F hK hH 0 inX4_land_X4 3 mbX4_land_f19 dX4_land_115 rfl rfl (by decide) rfl ?_
            refine lv_aload_n hx hb dX4_land_118 rfl (lv_at hl 4 rfl) ?_
            refine k_get (v := .ref (ad 1)) F hK hH 0 inX4_land_X4 0 mbX4_land_f9 dX4_land_119 rfl rfl (by decide) rfl ?_
            obtain ⟨x23, hcl, hf⟩ := wp_b hf
            refine k_Sv F hK hH hA hl.1 ⟨Nat.zero_le _, Nat.zero_le _⟩ [4, 1] [.ref (ad 4), .ref (ad 1)] [] (ctX4_copies (ad 4) (ad 1) x11 x22.2 hcl) (va_cwS 2 hts gX4_land_X4_copies rfl rfl rfl hdSX4_copies ⟨Nat.le_of_ble_eq_true rfl, Nat.le_of_ble_eq_true rfl⟩) dX4_land_122 rfl rfl (Nat.le_of_ble_eq_true rfl) rfl rfl (by decide) (fun H locs hH => ?_)
            have hH : Hs D A s.heap (wMd cI ad x23 xm xi x11 xh xl xr xe xn xo x21.2.1 x21.2.2 xd) H locs := hH
            refine lv_goto (tgt := 62) hx hb dX4_land_125 (by decide) ?_
            have hw := wp_in hf
            exact ih _ _ _ _ _ _ _ hw hH (lv_sub hl [4, 5, 0] rfl)
          · have hf := wp_f hc hf
            refine lv_goto (tgt := 62) hx hb dX4_land_105 (by decide) ?_
            have hw := wp_in hf
            exact ih _ _ _ _ _ _ _ hw hH (lv_sub hl [3, 4, 5] rfl)
  refine LP _ (fun t16 t17 t18 t19 H locs ls hf hH hl => ?_) fu _ _ _ _ _ _ _ (wp_bb hf) hH (lv_sub hl [0, 1, 2] rfl)
  refine lv_aload_n hx hb dX4_land_128 rfl (lv_at hl 0 rfl) ?_
  refine lv_iconst (v := 0) hx hb dX4_land_129 (by decide) ?_
  refine k_put (v := .int 0) F hK hH 0 inX4_land_X4 tyX4 tyX4_ok nmX4 8 mbX4_land_f80 dX4_land_130 rfl rfl (by decide) rfl rfl rfl (Nat.le_of_ble_eq_true rfl) (fun H locs hH => ?_)
  have hH : Hs D A s.heap (wMd cI ad t17 xm xi x11 xh xl xr xe 0 xo t18 t19 xd) H locs := hH
  refine lv_iload_n hx hb dX4_land_133 rfl (lv_at hl 2 rfl) ?_
  refine lv_bipush (v := (-9)) hx hb dX4_land_134 (by decide) ?_
  refine lv_icmp_ne (tgt := 143) hx hb dX4_land_136 (by decide) (fun hc => ?_) (fun hc => ?_)
  · have hf := wp_f hc hf
    refine lv_iload_n hx hb dX4_land_143 rfl (lv_at hl 2 rfl) ?_
    have hrs := wp_s hf
    subst hrs
    exact RET H locs ls 144 dX4_land_144 rfl hH
  · have hf := wp_t hc hf
    refine lv_iload_n hx hb dX4_land_139 rfl (lv_at hl 1 rfl) ?_
    refine lv_goto (tgt := 144) hx hb dX4_land_140 (by decide) ?_
    have hrs := wp_s hf
    subst hrs
    exact RET H locs ls 144 dX4_land_144 rfl hH

