def bX4_mist_82 (v2 : Int32) (v3 : Int32) : (Int64 × Int32) → Option ((Int64 × Int32) ⊕ (Int64)) := fun ((t7, t8) : Int64 × Int32) =>
  if v2 ≤ t8 then
    some (.inr t7)
  else
    some (.inl (t7 * (Int32.toInt64 v3), t8 + 1))

def bX4_mist_129 (v2 : Int32) (v3 : Int32) (t11 : Int32) : (Int64 × Int32 × (Nat → Int32)) → Option ((Int64 × Int32 × (Nat → Int32)) ⊕ (Int64 × (Nat → Int32))) := fun ((t16, t17, t18) : Int64 × Int32 × (Nat → Int32)) =>
  if v2 ≤ t17 then
    some (.inr (t16, t18))
  else
    Option.bind (fX4_has t11 t17) fun x21 =>
    Option.bind (if x21 = 0 then
        some (Int32.toInt64 (v3 - 1))
      else
        some 1) fun (t22 : Int64) =>
    Option.bind (fX4_has t11 t17) fun x23 =>
    Option.bind (if x23 = 0 then
        some t18
      else
        if (3 : Int32) ≤ (t18 (Int32.toNatClampNeg 2)) then
          some (upd t18 (Int32.toNatClampNeg 2) ((t18 (Int32.toNatClampNeg 2)) - 3))
        else
          some (upd t18 (Int32.toNatClampNeg 2) 0)) fun (t24 : (Nat → Int32)) =>
    Option.bind (fX4_hour t24) fun x25 =>
    some (.inl (t16 * t22, t17 + 1, x25))

def bX4_mist_104 (v1 : Int32) (v2 : Int32) (v3 : Int32) (v4 : Int32) (xs : (Nat → Int32)) : (Int64 × Int32 × (Nat → Int32)) → Option ((Int64 × Int32 × (Nat → Int32)) ⊕ (Int64 × (Nat → Int32))) := fun ((t10, t11, t12) : Int64 × Int32 × (Nat → Int32)) =>
  if ((1 : Int32) <<< (v2 &&& 31)) ≤ t11 then
    some (.inr (t10, t12))
  else
    Option.bind (fX4_copies xs t12) fun x15 =>
    Option.bind (lp (bX4_mist_129 v2 v3 t11) fu (1, 0, x15)) fun ((t19, t20) : Int64 × (Nat → Int32)) =>
    Option.bind (fX4_verdictIn v1 t20) fun x26 =>
    Option.bind (if x26 = v4 then
        some t19
      else
        some 0) fun (t27 : Int64) =>
    some (.inl (t10 + t27, t11 + 1, t20))

def fX4_mist (v1 : Int32) (v2 : Int32) (v3 : Int32) (v4 : Int32) (v5 : Int32) (xs : (Nat → Int32)) (xm : (Nat → Int32)) (xe : (Nat → Int32)) : Option (Int64 × (Nat → Int32) × (Nat → Int32)) :=
  Option.bind (fX4_isBranch v1) fun x1 =>
  if x1 = 0 then
    Option.bind (fX4_noWide (-1) xe) fun x32 =>
    some (x32.1, xm, x32.2)
  else
    if v2 < 0 then
      Option.bind (fX4_noWide (-4) xe) fun x2 =>
      some (x2.1, xm, x2.2)
    else
      if (2 : Int32) ≤ v3 then
        if (7 : Int32) < v2 then
          Option.bind (fX4_noWide (-6) xe) fun x3 =>
          some (x3.1, xm, x3.2)
        else
          if v3 ≤ 20 then
            Option.bind (fX4_isVerdict v4) fun x4 =>
            if x4 = 0 then
              Option.bind (fX4_noWide (-2) xe) fun x5 =>
              some (x5.1, xm, x5.2)
            else
              Option.bind (fX4_isIn v5 0 1) fun x6 =>
              if x6 = 0 then
                Option.bind (fX4_noWide (-2) xe) fun x29 =>
                some (x29.1, xm, x29.2)
              else
                Option.bind (lp (bX4_mist_82 v2 v3) fu (1, 0)) fun (t9 : Int64) =>
                Option.bind (lp (bX4_mist_104 v1 v2 v3 v4 xs) fu (0, 0, xm)) fun ((t13, t14) : Int64 × (Nat → Int32)) =>
                Option.bind (fX4_partOf t13 t9 v5) fun x28 =>
                some (x28, t14, xe)
          else
            Option.bind (fX4_noWide (-6) xe) fun x30 =>
            some (x30.1, xm, x30.2)
      else
        Option.bind (fX4_noWide (-4) xe) fun x31 =>
        some (x31.1, xm, x31.2)

def rmX4_mist : Room := { frames := 5, cells := 0, slots := 0, locals := 113 }
theorem mbX4_mist_f9 : Cond.fieldLink RX4 9 (TX4 0).1 (TX4 0).2.1 (TX4 0).2.2.1 ∈ wsX4_mist := by decide +kernel
theorem inX4_mist_X4 : ∀ w ∈ wsX40, w ∈ wsX4_mist := by decide +kernel
theorem mbX4_mist_f13 : Cond.fieldLink RX4 13 (TX4 1).1 (TX4 1).2.1 (TX4 1).2.2.1 ∈ wsX4_mist := by decide +kernel
theorem hdVX4_mist : yX4_mist.cls = RX4 ∧ yX4_mist.cls ≠ "java/lang/invoke/MethodHandle" ∧ yX4_mist.cls ≠ "java/lang/invoke/VarHandle" ∧ (parseMethodDescriptor yX4_mist.desc).map (fun d => d.parameters.length) = some 5 := by decide +kernel
set_option maxHeartbeats 4000000 in
set_option maxRecDepth 100000 in
theorem ctX4_mist {l : Launch} {D : va_G} {cI cJ cQ : ClassId} (ad : Nat → Nat) (xs : (Nat → Int32)) (xm : (Nat → Int32)) (xi : (Nat → Int32)) (xw : (Nat → Int32)) (xh : Int32) (xl : (Nat → Int32)) (xr : (Nat → Int32)) (xe : (Nat → Int32)) (xn : Int32) (xo : Int32) (xp : Int32) (xu : (Nat → Int32)) (xd : Int32) (v1 : Int32) (v2 : Int32) (v3 : Int32) (v4 : Int32) (v5 : Int32) {res : Int64 × (Nat → Int32) × (Nat → Int32)} (h : fX4_mist v1 v2 v3 v4 v5 xs xm xe = some res) : CtL l D cI cJ cQ yX4_mist wsX4_mist rmX4_mist [.ref (ad 0), .int v1, .int v2, .int v3, .int v4, .int v5] (wMd cI ad xs xm xi xw xh xl xr xe xn xo xp xu xd) res.1 (wMd cI ad xs res.2.1 xi xw xh xl xr res.2.2 xn xo xp xu xd) := by
  refine ctL_of (cc := cX4_mist) (maxL := 14) (by decide) rfl (Nat.le_of_ble_eq_true rfl) ?_
  intro p e s m args below meth c A Q ls F hK hA RET hH hl
  obtain ⟨hx, hb, hml, hown, hts⟩ := id F
  have hl : lv_has ls 14 [(0, .ref (ad 0)), (1, .int v1), (2, .int v2), (3, .int v3), (4, .int v4), (5, .int v5)] := hl
  have hf : wpO (fX4_mist v1 v2 v3 v4 v5 xs xm xe) (fun v => v = res) := ⟨_, h, rfl⟩
  obtain ⟨H, eH⟩ : ∃ H, H = s.heap := ⟨_, rfl⟩
  obtain ⟨locs, eL⟩ : ∃ locs : List Loc, locs = [] := ⟨_, rfl⟩
  have hH : Hs D A s.heap (wMd cI ad xs xm xi xw xh xl xr xe xn xo xp xu xd) H locs := by rw [eH, eL]; exact hH
  rw [← eL]
  suffices hgo : W p l e rmX4_mist s m args below meth c H locs 0 0 Q (F0 m 0 ls []) by rw [eH] at hgo; exact hgo
  clear eH eL
  refine lv_iload_n hx hb dX4_mist_0 rfl (lv_at hl 1 rfl) ?_
  obtain ⟨x1, hcl, hf⟩ := wp_b hf
  refine k_Si F hK hH hA hl.1 ⟨Nat.zero_le _, Nat.zero_le _⟩ [] [.int v1] [] (ctX4_isBranch v1 hcl) (va_cwS 1 hts gX4_mist_X4_isBranch rfl rfl rfl hdSX4_isBranch ⟨Nat.le_of_ble_eq_true rfl, Nat.le_of_ble_eq_true rfl⟩) dX4_mist_1 rfl rfl (Nat.le_of_ble_eq_true rfl) rfl rfl (by decide) (fun H locs hH => ?_)
  have hH : Hs D A s.heap (wMd cI ad xs xm xi xw xh xl xr xe xn xo xp xu xd) H locs := hH
  refine lv_if_ne (tgt := 13) hx hb dX4_mist_4 (by decide) (fun hc => ?_) (fun hc => ?_)
  · have hf := wp_f hc hf
    refine lv_iload_n hx hb dX4_mist_13 rfl (lv_at hl 2 rfl) ?_
    refine lv_if_lt (tgt := 22) hx hb dX4_mist_14 (by decide) (fun hc => ?_) (fun hc => ?_)
    · have hf := wp_t hc hf
      refine lv_aload_n hx hb dX4_mist_22 rfl (lv_at hl 0 rfl) ?_
      refine lv_bipush (v := (-4)) hx hb dX4_mist_23 (by decide) ?_
      obtain ⟨x2, hcl, hf⟩ := wp_b hf
      refine k_Vl0 F hK hH hA hl.1 ⟨Nat.zero_le _, Nat.zero_le _⟩ [.int (-4)] [] (ctX4_noWide ad xs xm xi xw xh xl xr xe xn xo xp xu xd (-4) hcl) (cwV 1 hts gX4_mist_X4_noWide rfl rfl rfl hdVX4_noWide ⟨Nat.le_of_ble_eq_true rfl, Nat.le_of_ble_eq_true rfl⟩) dX4_mist_25 0 rfl rfl rfl rfl rfl (Nat.le_of_ble_eq_true rfl) rfl (fun H locs hH => ?_)
      have hH : Hs D A s.heap (wMd cI ad xs xm xi xw xh xl xr x2.2 xn xo xp xu xd) H locs := hH
      refine W.eq (g2 := F0 m 28 ls [.long x2.1]) rfl ?_
      have hrs := wp_s hf
      subst hrs
      exact RET H locs ls 28 dX4_mist_28 hH
    · have hf := wp_f hc hf
      refine lv_iload_n hx hb dX4_mist_17 rfl (lv_at hl 3 rfl) ?_
      refine lv_iconst (v := 2) hx hb dX4_mist_18 (by decide) ?_
      refine lv_icmp_ge (tgt := 29) hx hb dX4_mist_19 (by decide) (fun hc => ?_) (fun hc => ?_)
      · have hf := wp_t hc hf
        refine lv_iload_n hx hb dX4_mist_29 rfl (lv_at hl 2 rfl) ?_
        refine lv_bipush (v := 7) hx hb dX4_mist_30 (by decide) ?_
        refine lv_icmp_gt (tgt := 41) hx hb dX4_mist_32 (by decide) (fun hc => ?_) (fun hc => ?_)
        · have hf := wp_t hc hf
          refine lv_aload_n hx hb dX4_mist_41 rfl (lv_at hl 0 rfl) ?_
          refine lv_bipush (v := (-6)) hx hb dX4_mist_42 (by decide) ?_
          obtain ⟨x3, hcl, hf⟩ := wp_b hf
          refine k_Vl0 F hK hH hA hl.1 ⟨Nat.zero_le _, Nat.zero_le _⟩ [.int (-6)] [] (ctX4_noWide ad xs xm xi xw xh xl xr xe xn xo xp xu xd (-6) hcl) (cwV 1 hts gX4_mist_X4_noWide rfl rfl rfl hdVX4_noWide ⟨Nat.le_of_ble_eq_true rfl, Nat.le_of_ble_eq_true rfl⟩) dX4_mist_44 0 rfl rfl rfl rfl rfl (Nat.le_of_ble_eq_true rfl) rfl (fun H locs hH => ?_)
          have hH : Hs D A s.heap (wMd cI ad xs xm xi xw xh xl xr x3.2 xn xo xp xu xd) H locs := hH
          refine W.eq (g2 := F0 m 47 ls [.long x3.1]) rfl ?_
          have hrs := wp_s hf
          subst hrs
          exact RET H locs ls 47 dX4_mist_47 hH
        · have hf := wp_f hc hf
          refine lv_iload_n hx hb dX4_mist_35 rfl (lv_at hl 3 rfl) ?_
          refine lv_bipush (v := 20) hx hb dX4_mist_36 (by decide) ?_
          refine lv_icmp_le (tgt := 48) hx hb dX4_mist_38 (by decide) (fun hc => ?_) (fun hc => ?_)
          · have hf := wp_t hc hf
            refine lv_iload hx hb dX4_mist_48 (lv_at hl 4 rfl) ?_
            obtain ⟨x4, hcl, hf⟩ := wp_b hf
            refine k_Si F hK hH hA hl.1 ⟨Nat.zero_le _, Nat.zero_le _⟩ [] [.int v4] [] (ctX4_isVerdict v4 hcl) (va_cwS 1 hts gX4_mist_X4_isVerdict rfl rfl rfl hdSX4_isVerdict ⟨Nat.le_of_ble_eq_true rfl, Nat.le_of_ble_eq_true rfl⟩) dX4_mist_50 rfl rfl (Nat.le_of_ble_eq_true rfl) rfl rfl (by decide) (fun H locs hH => ?_)
            have hH : Hs D A s.heap (wMd cI ad xs xm xi xw xh xl xr xe xn xo xp xu xd) H locs := hH
            refine lv_if_eq (tgt := 66) hx hb dX4_mist_53 (by decide) (fun hc => ?_) (fun hc => ?_)
            · have hf := wp_t hc hf
              refine lv_aload_n hx hb dX4_mist_66 rfl (lv_at hl 0 rfl) ?_
              refine lv_bipush (v := (-2)) hx hb dX4_mist_67 (by decide) ?_
              obtain ⟨x5, hcl, hf⟩ := wp_b hf
              refine k_Vl0 F hK hH hA hl.1 ⟨Nat.zero_le _, Nat.zero_le _⟩ [.int (-2)] [] (ctX4_noWide ad xs xm xi xw xh xl xr xe xn xo xp xu xd (-2) hcl) (cwV 1 hts gX4_mist_X4_noWide rfl rfl rfl hdVX4_noWide ⟨Nat.le_of_ble_eq_true rfl, Nat.le_of_ble_eq_true rfl⟩) dX4_mist_69 0 rfl rfl rfl rfl rfl (Nat.le_of_ble_eq_true rfl) rfl (fun H locs hH => ?_)
              have hH : Hs D A s.heap (wMd cI ad xs xm xi xw xh xl xr x5.2 xn xo xp xu xd) H locs := hH
              refine W.eq (g2 := F0 m 72 ls [.long x5.1]) rfl ?_
              have hrs := wp_s hf
              subst hrs
              exact RET H locs ls 72 dX4_mist_72 hH
            · have hf := wp_f hc hf
              refine lv_iload hx hb dX4_mist_56 (lv_at hl 5 rfl) ?_
              refine lv_iconst (v := 0) hx hb dX4_mist_58 (by decide) ?_
              refine lv_iconst (v := 1) hx hb dX4_mist_59 (by decide) ?_
              obtain ⟨x6, hcl, hf⟩ := wp_b hf
              refine k_Si F hK hH hA hl.1 ⟨Nat.zero_le _, Nat.zero_le _⟩ [] [.int v5, .int 0, .int 1] [] (ctX4_isIn v5 0 1 hcl) (va_cwS 3 hts gX4_mist_X4_isIn rfl rfl rfl hdSX4_isIn ⟨Nat.le_of_ble_eq_true rfl, Nat.le_of_ble_eq_true rfl⟩) dX4_mist_60 rfl rfl (Nat.le_of_ble_eq_true rfl) rfl rfl (by decide) (fun H locs hH => ?_)
              have hH : Hs D A s.heap (wMd cI ad xs xm xi xw xh xl xr xe xn xo xp xu xd) H locs := hH
              refine lv_if_ne (tgt := 73) hx hb dX4_mist_63 (by decide) (fun hc => ?_) (fun hc => ?_)
              · have hf := wp_f hc hf
                refine lv_lconst (v := 0) hx hb dX4_mist_73 (by decide) ?_
                refine lv_lstore (lv' := [(6, .long 0), (0, .ref (ad 0)), (1, .int v1), (2, .int v2), (3, .int v3), (4, .int v4), (5, .int v5)]) hx hb dX4_mist_74 hl (by decide) rfl (fun ls hl => ?_)
                refine lv_lconst (v := 1) hx hb dX4_mist_76 (by decide) ?_
                refine lv_lstore (lv' := [(8, .long 1), (6, .long 0), (0, .ref (ad 0)), (1, .int v1), (2, .int v2), (3, .int v3), (4, .int v4), (5, .int v5)]) hx hb dX4_mist_77 hl (by decide) rfl (fun ls hl => ?_)
                refine lv_iconst (v := 0) hx hb dX4_mist_79 (by decide) ?_
                refine lv_istore (lv' := [(10, .int 0), (8, .long 1), (6, .long 0), (0, .ref (ad 0)), (1, .int v1), (2, .int v2), (3, .int v3), (4, .int v4), (5, .int v5)]) hx hb dX4_mist_80 hl (by decide) rfl (fun ls hl => ?_)
                have LP : ∀ (Φ : (Int64) → Prop), (∀ (t9 : Int64) (H : Heap) (locs : List Loc) (ls : Array Slot), Φ (t9) → Hs D A s.heap (wMd cI ad xs xm xi xw xh xl xr xe xn xo xp xu xd) H locs → lv_has ls 14 [(0, .ref (ad 0)), (1, .int v1), (2, .int v2), (3, .int v3), (4, .int v4), (5, .int v5), (6, .long 0), (8, .long t9)] → W p l e rmX4_mist s m args below meth c H locs 0 0 Q (F0 m 101 ls [])) → ∀ (n : Nat) (t7 : Int64) (t8 : Int32) (H : Heap) (locs : List Loc) (ls : Array Slot), wpO (lp (bX4_mist_82 v2 v3) n (t7, t8)) Φ → Hs D A s.heap (wMd cI ad xs xm xi xw xh xl xr xe xn xo xp xu xd) H locs → lv_has ls 14 [(0, .ref (ad 0)), (1, .int v1), (2, .int v2), (3, .int v3), (4, .int v4), (5, .int v5), (6, .long 0), (8, .long t7), (10, .int t8)] → W p l e rmX4_mist s m args below meth c H locs 0 0 Q (F0 m 82 ls []) := by
                  intro Φ EX n
                  induction n with
                  | zero =>
                    intro t7 t8 H locs ls hf hH hl
                    exact (wp_l0 hf).elim
                  | succ n ih =>
                    intro t7 t8 H locs ls hf hH hl
                    have hf := wp_l hf
                    refine lv_iload hx hb dX4_mist_82 (lv_at hl 8 rfl) ?_
                    refine lv_iload_n hx hb dX4_mist_84 rfl (lv_at hl 2 rfl) ?_
                    refine lv_icmp_ge (tgt := 101) hx hb dX4_mist_85 (by decide) (fun hc => ?_) (fun hc => ?_)
                    · have hf := wp_t hc hf
                      have hw := wp_out hf
                      exact EX _ _ _ _ hw hH (lv_sub hl [0, 1, 2, 3, 4, 5, 6, 7] rfl)
                    · have hf := wp_f hc hf
                      refine lv_lload hx hb dX4_mist_88 (lv_at hl 7 rfl) ?_
                      refine lv_iload_n hx hb dX4_mist_90 rfl (lv_at hl 3 rfl) ?_
                      refine lv_i2l (v := Int32.toInt64 v3) hx hb dX4_mist_91 rfl ?_
                      refine lv_lmul hx hb dX4_mist_92 ?_
                      refine lv_lstore (lv' := [(8, .long (t7 * (Int32.toInt64 v3))), (0, .ref (ad 0)), (1, .int v1), (2, .int v2), (3, .int v3), (4, .int v4), (5, .int v5), (6, .long 0), (10, .int t8)]) hx hb dX4_mist_93 hl (by decide) rfl (fun ls hl => ?_)
                      refine lv_iinc (v := t8 + 1) (lv' := [(10, .int (t8 + 1)), (8, .long (t7 * (Int32.toInt64 v3))), (0, .ref (ad 0)), (1, .int v1), (2, .int v2), (3, .int v3), (4, .int v4), (5, .int v5), (6, .long 0)]) hx hb dX4_mist_95 hl (k := 8) rfl rfl (by decide) rfl (fun ls hl => ?_)
                      refine lv_goto (tgt := 82) hx hb dX4_mist_98 (by decide) ?_
                      have hw := wp_in hf
                      exact ih _ _ _ _ _ hw hH (lv_sub hl [2, 3, 4, 5, 6, 7, 8, 1, 0] rfl)
                refine LP _ (fun t9 H locs ls hf hH hl => ?_) fu _ _ _ _ _ (wp_bb hf) hH (lv_sub hl [3, 4, 5, 6, 7, 8, 2, 1, 0] rfl)
                refine lv_iconst (v := 0) hx hb dX4_mist_101 (by decide) ?_
                refine lv_istore (lv' := [(10, .int 0), (0, .ref (ad 0)), (1, .int v1), (2, .int v2), (3, .int v3), (4, .int v4), (5, .int v5), (6, .long 0), (8, .long t9)]) hx hb dX4_mist_102 hl (by decide) rfl (fun ls hl => ?_)
                have LP : ∀ (Φ : (Int64 × (Nat → Int32)) → Prop), (∀ (t13 : Int64) (t14 : (Nat → Int32)) (H : Heap) (locs : List Loc) (ls : Array Slot), Φ ((t13, t14)) → Hs D A s.heap (wMd cI ad xs t14 xi xw xh xl xr xe xn xo xp xu xd) H locs → lv_has ls 14 [(5, .int v5), (6, .long t13), (8, .long t9)] → W p l e rmX4_mist s m args below meth c H locs 0 0 Q (F0 m 239 ls [])) → ∀ (n : Nat) (t10 : Int64) (t11 : Int32) (t12 : (Nat → Int32)) (H : Heap) (locs : List Loc) (ls : Array Slot), wpO (lp (bX4_mist_104 v1 v2 v3 v4 xs) n (t10, t11, t12)) Φ → Hs D A s.heap (wMd cI ad xs t12 xi xw xh xl xr xe xn xo xp xu xd) H locs → lv_has ls 14 [(0, .ref (ad 0)), (1, .int v1), (2, .int v2), (3, .int v3), (4, .int v4), (5, .int v5), (6, .long t10), (8, .long t9), (10, .int t11)] → W p l e rmX4_mist s m args below meth c H locs 0 0 Q (F0 m 104 ls []) := by
                  intro Φ EX n
                  induction n with
                  | zero =>
                    intro t10 t11 t12 H locs ls hf hH hl
                    exact (wp_l0 hf).elim
                  | succ n ih =>
                    intro t10 t11 t12 H locs ls hf hH hl
                    have hf := wp_l hf
                    refine lv_iload hx hb dX4_mist_104 (lv_at hl 8 rfl) ?_
                    refine lv_iconst (v := 1) hx hb dX4_mist_106 (by decide) ?_
                    refine lv_iload_n hx hb dX4_mist_107 rfl (lv_at hl 2 rfl) ?_
                    refine lv_ishl hx hb dX4_mist_108 ?_
                    refine lv_icmp_ge (tgt := 239) hx hb dX4_mist_109 (by decide) (fun hc => ?_) (fun hc => ?_)
                    · have hf := wp_t hc hf
                      have hw := wp_out hf
                      exact EX _ _ _ _ _ hw hH (lv_sub hl [5, 6, 7] rfl)
                    · have hf := wp_f hc hf
                      refine lv_lconst (v := 1) hx hb dX4_mist_112 (by decide) ?_
                      refine lv_lstore (lv' := [(11, .long 1), (0, .ref (ad 0)), (1, .int v1), (2, .int v2), (3, .int v3), (4, .int v4), (5, .int v5), (6, .long t10), (8, .long t9), (10, .int t11)]) hx hb dX4_mist_113 hl (by decide) rfl (fun ls hl => ?_)
                      refine lv_aload_n hx hb dX4_mist_115 rfl (lv_at hl 1 rfl) ?_
                      refine k_get (v := .ref (ad 1)) F hK hH 0 inX4_mist_X4 0 mbX4_mist_f9 dX4_mist_116 rfl rfl (by decide) rfl ?_
                      refine lv_aload_n hx hb dX4_mist_119 rfl (lv_at hl 1 rfl) ?_
                      refine k_get (v := .ref (ad 2)) F hK hH 0 inX4_mist_X4 1 mbX4_mist_f13 dX4_mist_120 rfl rfl (by decide) rfl ?_
                      obtain ⟨x15, hcl, hf⟩ := wp_b hf
                      refine k_Sv F hK hH hA hl.1 ⟨Nat.zero_le _, Nat.zero_le _⟩ [1, 2] [.ref (ad 1), .ref (ad 2)] [] (ctX4_copies (ad 1) (ad 2) xs t12 hcl) (va_cwS 2 hts gX4_mist_X4_copies rfl rfl rfl hdSX4_copies ⟨Nat.le_of_ble_eq_true rfl, Nat.le_of_ble_eq_true rfl⟩) dX4_mist_123 rfl rfl (Nat.le_of_ble_eq_true rfl) rfl rfl (by decide) (fun H locs hH => ?_)
                      have hH : Hs D A s.heap (wMd cI ad xs x15 xi xw xh xl xr xe xn xo xp xu xd) H locs := hH
                      refine lv_iconst (v := 0) hx hb dX4_mist_126 (by decide) ?_
                      refine lv_istore (lv' := [(13, .int 0), (11, .long 1), (0, .ref (ad 0)), (1, .int v1), (2, .int v2), (3, .int v3), (4, .int v4), (5, .int v5), (6, .long t10), (8, .long t9), (10, .int t11)]) hx hb dX4_mist_127 hl (by decide) rfl (fun ls hl => ?_)
                      have LP : ∀ (Φ : (Int64 × (Nat → Int32)) → Prop), (∀ (t19 : Int64) (t20 : (Nat → Int32)) (H : Heap) (locs : List Loc) (ls : Array Slot), Φ ((t19, t20)) → Hs D A s.heap (wMd cI ad xs t20 xi xw xh xl xr xe xn xo xp xu xd) H locs → lv_has ls 14 [(0, .ref (ad 0)), (1, .int v1), (2, .int v2), (3, .int v3), (4, .int v4), (5, .int v5), (6, .long t10), (8, .long t9), (10, .int t11), (11, .long t19)] → W p l e rmX4_mist s m args below meth c H locs 0 0 Q (F0 m 209 ls [])) → ∀ (n : Nat) (t16 : Int64) (t17 : Int32) (t18 : (Nat → Int32)) (H : Heap) (locs : List Loc) (ls : Array Slot), wpO (lp (bX4_mist_129 v2 v3 t11) n (t16, t17, t18)) Φ → Hs D A s.heap (wMd cI ad xs t18 xi xw xh xl xr xe xn xo xp xu xd) H locs → lv_has ls 14 [(0, .ref (ad 0)), (1, .int v1), (2, .int v2), (3, .int v3), (4, .int v4), (5, .int v5), (6, .long t10), (8, .long t9), (10, .int t11), (11, .long t16), (13, .int t17)] → W p l e rmX4_mist s m args below meth c H locs 0 0 Q (F0 m 129 ls []) := by
                        intro Φ EX n
                        induction n with
                        | zero =>
                          intro t16 t17 t18 H locs ls hf hH hl
                          exact (wp_l0 hf).elim
                        | succ n ih =>
                          intro t16 t17 t18 H locs ls hf hH hl
                          have hf := wp_l hf
                          refine lv_iload hx hb dX4_mist_129 (lv_at hl 10 rfl) ?_
                          refine lv_iload_n hx hb dX4_mist_131 rfl (lv_at hl 2 rfl) ?_
                          refine lv_icmp_ge (tgt := 209) hx hb dX4_mist_132 (by decide) (fun hc => ?_) (fun hc => ?_)
                          · have hf := wp_t hc hf
                            have hw := wp_out hf
                            exact EX _ _ _ _ _ hw hH (lv_sub hl [0, 1, 2, 3, 4, 5, 6, 7, 8, 9] rfl)
                          · have hf := wp_f hc hf
                            refine lv_lload hx hb dX4_mist_135 (lv_at hl 9 rfl) ?_
                            refine lv_iload hx hb dX4_mist_137 (lv_at hl 8 rfl) ?_
                            refine lv_iload hx hb dX4_mist_139 (lv_at hl 10 rfl) ?_
                            obtain ⟨x21, hcl, hf⟩ := wp_b hf
                            refine k_Si F hK hH hA hl.1 ⟨Nat.zero_le _, Nat.zero_le _⟩ [] [.int t11, .int t17] [.long t16] (ctX4_has t11 t17 hcl) (va_cwS 2 hts gX4_mist_X4_has rfl rfl rfl hdSX4_has ⟨Nat.le_of_ble_eq_true rfl, Nat.le_of_ble_eq_true rfl⟩) dX4_mist_141 rfl rfl (Nat.le_of_ble_eq_true rfl) rfl rfl (by decide) (fun H locs hH => ?_)
                            have hH : Hs D A s.heap (wMd cI ad xs t18 xi xw xh xl xr xe xn xo xp xu xd) H locs := hH
                            refine join_ (α := Int64) (fun Φ => ∀ (t22 : Int64) (H : Heap) (locs : List Loc) (ls : Array Slot), Φ t22 → Hs D A s.heap (wMd cI ad xs t18 xi xw xh xl xr xe xn xo xp xu xd) H locs → lv_has ls 14 [(0, .ref (ad 0)), (1, .int v1), (2, .int v2), (3, .int v3), (4, .int v4), (5, .int v5), (6, .long t10), (8, .long t9), (10, .int t11), (13, .int t17)] → W p l e rmX4_mist s m args below meth c H locs 0 0 Q (F0 m 155 ls [.long t22, .long t16])) (wp_bb hf) ?_ ?_
                            · intro t22 H locs ls hf hH hl
                              refine lv_lmul hx hb dX4_mist_155 ?_
                              refine lv_lstore (lv' := [(11, .long (t16 * t22)), (0, .ref (ad 0)), (1, .int v1), (2, .int v2), (3, .int v3), (4, .int v4), (5, .int v5), (6, .long t10), (8, .long t9), (10, .int t11), (13, .int t17)]) hx hb dX4_mist_156 hl (by decide) rfl (fun ls hl => ?_)
                              refine lv_iload hx hb dX4_mist_158 (lv_at hl 9 rfl) ?_
                              refine lv_iload hx hb dX4_mist_160 (lv_at hl 10 rfl) ?_
                              obtain ⟨x23, hcl, hf⟩ := wp_b hf
                              refine k_Si F hK hH hA hl.1 ⟨Nat.zero_le _, Nat.zero_le _⟩ [] [.int t11, .int t17] [] (ctX4_has t11 t17 hcl) (va_cwS 2 hts gX4_mist_X4_has rfl rfl rfl hdSX4_has ⟨Nat.le_of_ble_eq_true rfl, Nat.le_of_ble_eq_true rfl⟩) dX4_mist_162 rfl rfl (Nat.le_of_ble_eq_true rfl) rfl rfl (by decide) (fun H locs hH => ?_)
                              have hH : Hs D A s.heap (wMd cI ad xs t18 xi xw xh xl xr xe xn xo xp xu xd) H locs := hH
                              refine join_ (α := (Nat → Int32)) (fun Φ => ∀ (t24 : (Nat → Int32)) (H : Heap) (locs : List Loc) (ls : Array Slot), Φ t24 → Hs D A s.heap (wMd cI ad xs t24 xi xw xh xl xr xe xn xo xp xu xd) H locs → lv_has ls 14 [(0, .ref (ad 0)), (1, .int v1), (2, .int v2), (3, .int v3), (4, .int v4), (5, .int v5), (6, .long t10), (8, .long t9), (10, .int t11), (11, .long (t16 * t22)), (13, .int t17)] → W p l e rmX4_mist s m args below meth c H locs 0 0 Q (F0 m 196 ls [])) (wp_bb hf) ?_ ?_
                              · intro t24 H locs ls hf hH hl
                                refine lv_aload_n hx hb dX4_mist_196 rfl (lv_at hl 0 rfl) ?_
                                refine k_get (v := .ref (ad 2)) F hK hH 0 inX4_mist_X4 1 mbX4_mist_f13 dX4_mist_197 rfl rfl (by decide) rfl ?_
                                obtain ⟨x25, hcl, hf⟩ := wp_b hf
                                refine k_Sv F hK hH hA hl.1 ⟨Nat.zero_le _, Nat.zero_le _⟩ [2] [.ref (ad 2)] [] (ctX4_hour (ad 2) t24 hcl) (va_cwS 1 hts gX4_mist_X4_hour rfl rfl rfl hdSX4_hour ⟨Nat.le_of_ble_eq_true rfl, Nat.le_of_ble_eq_true rfl⟩) dX4_mist_200 rfl rfl (Nat.le_of_ble_eq_true rfl) rfl rfl (by decide) (fun H locs hH => ?_)
                                have hH : Hs D A s.heap (wMd cI ad xs x25 xi xw xh xl xr xe xn xo xp xu xd) H locs := hH
                                refine lv_iinc (v := t17 + 1) (lv' := [(13, .int (t17 + 1)), (0, .ref (ad 0)), (1, .int v1), (2, .int v2), (3, .int v3), (4, .int v4), (5, .int v5), (6, .long t10), (8, .long t9), (10, .int t11), (11, .long (t16 * t22))]) hx hb dX4_mist_203 hl (k := 10) rfl rfl (by decide) rfl (fun ls hl => ?_)
                                refine lv_goto (tgt := 129) hx hb dX4_mist_206 (by decide) ?_
                                have hw := wp_in hf
                                exact ih _ _ _ _ _ _ hw hH (lv_sub hl [1, 2, 3, 4, 5, 6, 7, 8, 9, 10, 0] rfl)
                              · intro Φ JJ hf
                                refine lv_if_eq (tgt := 196) hx hb dX4_mist_165 (by decide) (fun hc => ?_) (fun hc => ?_)
                                · have hf := wp_t hc hf
                                  have hw := wp_s hf
                                  exact JJ _ _ _ _ hw hH (lv_sub hl [1, 2, 3, 4, 5, 6, 7, 8, 9, 0, 10] rfl)
                                · have hf := wp_f hc hf
                                  refine lv_aload_n hx hb dX4_mist_168 rfl (lv_at hl 1 rfl) ?_
                                  refine k_get (v := .ref (ad 2)) F hK hH 0 inX4_mist_X4 1 mbX4_mist_f13 dX4_mist_169 rfl rfl (by decide) rfl ?_
                                  refine lv_iconst (v := 2) hx hb dX4_mist_172 (by decide) ?_
                                  refine lv_aload_n hx hb dX4_mist_173 rfl (lv_at hl 1 rfl) ?_
                                  refine k_get (v := .ref (ad 2)) F hK hH 0 inX4_mist_X4 1 mbX4_mist_f13 dX4_mist_174 rfl rfl (by decide) rfl ?_
                                  refine lv_iconst (v := 2) hx hb dX4_mist_177 (by decide) ?_
                                  refine k_iald (f := t18) (n := 53) F hK hH 2 dX4_mist_178 (by decide) rfl ?_
                                  refine lv_iconst (v := 3) hx hb dX4_mist_179 (by decide) ?_
                                  refine lv_icmp_ge (tgt := 187) hx hb dX4_mist_180 (by decide) (fun hc => ?_) (fun hc => ?_)
                                  · have hf := wp_t hc hf
                                    refine lv_aload_n hx hb dX4_mist_187 rfl (lv_at hl 1 rfl) ?_
                                    refine k_get (v := .ref (ad 2)) F hK hH 0 inX4_mist_X4 1 mbX4_mist_f13 dX4_mist_188 rfl rfl (by decide) rfl ?_
                                    refine lv_iconst (v := 2) hx hb dX4_mist_191 (by decide) ?_
                                    refine k_iald (f := t18) (n := 53) F hK hH 2 dX4_mist_192 (by decide) rfl ?_
                                    refine lv_iconst (v := 3) hx hb dX4_mist_193 (by decide) ?_
                                    refine lv_isub hx hb dX4_mist_194 ?_
                                    refine k_iast (f := t18) (n := 53) F hK hH 2 dX4_mist_195 (by decide) rfl (fun H locs hH => ?_)
                                    have hH : Hs D A s.heap (wMd cI ad xs (upd t18 (Int32.toNatClampNeg 2) ((t18 (Int32.toNatClampNeg 2)) - 3)) xi xw xh xl xr xe xn xo xp xu xd) H locs := hH
                                    have hw := wp_s hf
                                    exact JJ _ _ _ _ hw hH (lv_sub hl [1, 2, 3, 4, 5, 6, 7, 8, 9, 0, 10] rfl)
                                  · have hf := wp_f hc hf
                                    refine lv_iconst (v := 0) hx hb dX4_mist_183 (by decide) ?_
                                    refine lv_goto (tgt := 195) hx hb dX4_mist_184 (by decide) ?_
                                    refine k_iast (f := t18) (n := 53) F hK hH 2 dX4_mist_195 (by decide) rfl (fun H locs hH => ?_)
                                    have hH : Hs D A s.heap (wMd cI ad xs (upd t18 (Int32.toNatClampNeg 2) 0) xi xw xh xl xr xe xn xo xp xu xd) H locs := hH
                                    have hw := wp_s hf
                                    exact JJ _ _ _ _ hw hH (lv_sub hl [1, 2, 3, 4, 5, 6, 7, 8, 9, 0, 10] rfl)
                            · intro Φ JJ hf
                              refine lv_if_eq (tgt := 151) hx hb dX4_mist_144 (by decide) (fun hc => ?_) (fun hc => ?_)
                              · have hf := wp_t hc hf
                                refine lv_iload_n hx hb dX4_mist_151 rfl (lv_at hl 3 rfl) ?_
                                refine lv_iconst (v := 1) hx hb dX4_mist_152 (by decide) ?_
                                refine lv_isub hx hb dX4_mist_153 ?_
                                refine lv_i2l (v := Int32.toInt64 (v3 - 1)) hx hb dX4_mist_154 rfl ?_
                                have hw := wp_s hf
                                exact JJ _ _ _ _ hw hH (lv_sub hl [0, 1, 2, 3, 4, 5, 6, 7, 8, 10] rfl)
                              · have hf := wp_f hc hf
                                refine lv_lconst (v := 1) hx hb dX4_mist_147 (by decide) ?_
                                refine lv_goto (tgt := 155) hx hb dX4_mist_148 (by decide) ?_
                                have hw := wp_s hf
                                exact JJ _ _ _ _ hw hH (lv_sub hl [0, 1, 2, 3, 4, 5, 6, 7, 8, 10] rfl)
                      refine LP _ (fun t19 t20 H locs ls hf hH hl => ?_) fu _ _ _ _ _ _ (wp_bb hf) hH (lv_sub hl [2, 3, 4, 5, 6, 7, 8, 9, 10, 1, 0] rfl)
                      refine lv_lload hx hb dX4_mist_209 (lv_at hl 6 rfl) ?_
                      refine lv_aload_n hx hb dX4_mist_211 rfl (lv_at hl 0 rfl) ?_
                      refine k_get (v := .ref (ad 2)) F hK hH 0 inX4_mist_X4 1 mbX4_mist_f13 dX4_mist_212 rfl rfl (by decide) rfl ?_
                      refine lv_iload_n hx hb dX4_mist_215 rfl (lv_at hl 1 rfl) ?_
                      obtain ⟨x26, hcl, hf⟩ := wp_b hf
                      refine k_Si F hK hH hA hl.1 ⟨Nat.zero_le _, Nat.zero_le _⟩ [2] [.ref (ad 2), .int v1] [.long t10] (ctX4_verdictIn (ad 2) t20 v1 hcl) (va_cwS 2 hts gX4_mist_X4_verdictIn rfl rfl rfl hdSX4_verdictIn ⟨Nat.le_of_ble_eq_true rfl, Nat.le_of_ble_eq_true rfl⟩) dX4_mist_216 rfl rfl (Nat.le_of_ble_eq_true rfl) rfl rfl (by decide) (fun H locs hH => ?_)
                      have hH : Hs D A s.heap (wMd cI ad xs t20 xi xw xh xl xr xe xn xo xp xu xd) H locs := hH
                      refine lv_iload hx hb dX4_mist_219 (lv_at hl 4 rfl) ?_
                      refine join_ (α := Int64) (fun Φ => ∀ (t27 : Int64) (H : Heap) (locs : List Loc) (ls : Array Slot), Φ t27 → Hs D A s.heap (wMd cI ad xs t20 xi xw xh xl xr xe xn xo xp xu xd) H locs → lv_has ls 14 [(0, .ref (ad 0)), (1, .int v1), (2, .int v2), (3, .int v3), (4, .int v4), (5, .int v5), (8, .long t9), (10, .int t11)] → W p l e rmX4_mist s m args below meth c H locs 0 0 Q (F0 m 230 ls [.long t27, .long t10])) (wp_bb hf) ?_ ?_
                      · intro t27 H locs ls hf hH hl
                        refine lv_ladd hx hb dX4_mist_230 ?_
                        refine lv_lstore (lv' := [(6, .long (t10 + t27)), (0, .ref (ad 0)), (1, .int v1), (2, .int v2), (3, .int v3), (4, .int v4), (5, .int v5), (8, .long t9), (10, .int t11)]) hx hb dX4_mist_231 hl (by decide) rfl (fun ls hl => ?_)
                        refine lv_iinc (v := t11 + 1) (lv' := [(10, .int (t11 + 1)), (6, .long (t10 + t27)), (0, .ref (ad 0)), (1, .int v1), (2, .int v2), (3, .int v3), (4, .int v4), (5, .int v5), (8, .long t9)]) hx hb dX4_mist_233 hl (k := 8) rfl rfl (by decide) rfl (fun ls hl => ?_)
                        refine lv_goto (tgt := 104) hx hb dX4_mist_236 (by decide) ?_
                        have hw := wp_in hf
                        exact ih _ _ _ _ _ _ hw hH (lv_sub hl [2, 3, 4, 5, 6, 7, 1, 8, 0] rfl)
                      · intro Φ JJ hf
                        refine lv_icmp_ne (tgt := 229) hx hb dX4_mist_221 (by decide) (fun hc => ?_) (fun hc => ?_)
                        · have hf := wp_f hc hf
                          refine lv_lconst (v := 0) hx hb dX4_mist_229 (by decide) ?_
                          have hw := wp_s hf
                          exact JJ _ _ _ _ hw hH (lv_sub hl [0, 1, 2, 3, 4, 5, 7, 8] rfl)
                        · have hf := wp_t hc hf
                          refine lv_lload hx hb dX4_mist_224 (lv_at hl 9 rfl) ?_
                          refine lv_goto (tgt := 230) hx hb dX4_mist_226 (by decide) ?_
                          have hw := wp_s hf
                          exact JJ _ _ _ _ hw hH (lv_sub hl [0, 1, 2, 3, 4, 5, 7, 8] rfl)
                refine LP _ (fun t13 t14 H locs ls hf hH hl => ?_) fu _ _ _ _ _ _ (wp_bb hf) hH (lv_sub hl [1, 2, 3, 4, 5, 6, 7, 8, 0] rfl)
                refine lv_lload hx hb dX4_mist_239 (lv_at hl 1 rfl) ?_
                refine lv_lload hx hb dX4_mist_241 (lv_at hl 2 rfl) ?_
                refine lv_iload hx hb dX4_mist_243 (lv_at hl 0 rfl) ?_
                obtain ⟨x28, hcl, hf⟩ := wp_b hf
                refine k_Sl F hK hH hA hl.1 ⟨Nat.zero_le _, Nat.zero_le _⟩ [] [.long t13, .long t9, .int v5] [] (ctX4_partOf t13 t9 v5 hcl) (va_cwS 3 hts gX4_mist_X4_partOf rfl rfl rfl hdSX4_partOf ⟨Nat.le_of_ble_eq_true rfl, Nat.le_of_ble_eq_true rfl⟩) dX4_mist_245 rfl rfl (Nat.le_of_ble_eq_true rfl) rfl rfl (by decide) (fun H locs hH => ?_)
                have hH : Hs D A s.heap (wMd cI ad xs t14 xi xw xh xl xr xe xn xo xp xu xd) H locs := hH
                have hrs := wp_s hf
                subst hrs
                exact RET H locs ls 248 dX4_mist_248 hH
              · have hf := wp_t hc hf
                refine lv_aload_n hx hb dX4_mist_66 rfl (lv_at hl 0 rfl) ?_
                refine lv_bipush (v := (-2)) hx hb dX4_mist_67 (by decide) ?_
                obtain ⟨x29, hcl, hf⟩ := wp_b hf
                refine k_Vl0 F hK hH hA hl.1 ⟨Nat.zero_le _, Nat.zero_le _⟩ [.int (-2)] [] (ctX4_noWide ad xs xm xi xw xh xl xr xe xn xo xp xu xd (-2) hcl) (cwV 1 hts gX4_mist_X4_noWide rfl rfl rfl hdVX4_noWide ⟨Nat.le_of_ble_eq_true rfl, Nat.le_of_ble_eq_true rfl⟩) dX4_mist_69 0 rfl rfl rfl rfl rfl (Nat.le_of_ble_eq_true rfl) rfl (fun H locs hH => ?_)
                have hH : Hs D A s.heap (wMd cI ad xs xm xi xw xh xl xr x29.2 xn xo xp xu xd) H locs := hH
                refine W.eq (g2 := F0 m 72 ls [.long x29.1]) rfl ?_
                have hrs := wp_s hf
                subst hrs
                exact RET H locs ls 72 dX4_mist_72 hH
          · have hf := wp_f hc hf
            refine lv_aload_n hx hb dX4_mist_41 rfl (lv_at hl 0 rfl) ?_
            refine lv_bipush (v := (-6)) hx hb dX4_mist_42 (by decide) ?_
            obtain ⟨x30, hcl, hf⟩ := wp_b hf
            refine k_Vl0 F hK hH hA hl.1 ⟨Nat.zero_le _, Nat.zero_le _⟩ [.int (-6)] [] (ctX4_noWide ad xs xm xi xw xh xl xr xe xn xo xp xu xd (-6) hcl) (cwV 1 hts gX4_mist_X4_noWide rfl rfl rfl hdVX4_noWide ⟨Nat.le_of_ble_eq_true rfl, Nat.le_of_ble_eq_true rfl⟩) dX4_mist_44 0 rfl rfl rfl rfl rfl (Nat.le_of_ble_eq_true rfl) rfl (fun H locs hH => ?_)
            have hH : Hs D A s.heap (wMd cI ad xs xm xi xw xh xl xr x30.2 xn xo xp xu xd) H locs := hH
            refine W.eq (g2 := F0 m 47 ls [.long x30.1]) rfl ?_
            have hrs := wp_s hf
            subst hrs
            exact RET H locs ls 47 dX4_mist_47 hH
      · have hf := wp_f hc hf
        refine lv_aload_n hx hb dX4_mist_22 rfl (lv_at hl 0 rfl) ?_
        refine lv_bipush (v := (-4)) hx hb dX4_mist_23 (by decide) ?_
        obtain ⟨x31, hcl, hf⟩ := wp_b hf
        refine k_Vl0 F hK hH hA hl.1 ⟨Nat.zero_le _, Nat.zero_le _⟩ [.int (-4)] [] (ctX4_noWide ad xs xm xi xw xh xl xr xe xn xo xp xu xd (-4) hcl) (cwV 1 hts gX4_mist_X4_noWide rfl rfl rfl hdVX4_noWide ⟨Nat.le_of_ble_eq_true rfl, Nat.le_of_ble_eq_true rfl⟩) dX4_mist_25 0 rfl rfl rfl rfl rfl (Nat.le_of_ble_eq_true rfl) rfl (fun H locs hH => ?_)
        have hH : Hs D A s.heap (wMd cI ad xs xm xi xw xh xl xr x31.2 xn xo xp xu xd) H locs := hH
        refine W.eq (g2 := F0 m 28 ls [.long x31.1]) rfl ?_
        have hrs := wp_s hf
        subst hrs
        exact RET H locs ls 28 dX4_mist_28 hH
  · have hf := wp_t hc hf
    refine lv_aload_n hx hb dX4_mist_7 rfl (lv_at hl 0 rfl) ?_
    refine lv_iconst (v := (-1)) hx hb dX4_mist_8 (by decide) ?_
    obtain ⟨x32, hcl, hf⟩ := wp_b hf
    refine k_Vl0 F hK hH hA hl.1 ⟨Nat.zero_le _, Nat.zero_le _⟩ [.int (-1)] [] (ctX4_noWide ad xs xm xi xw xh xl xr xe xn xo xp xu xd (-1) hcl) (cwV 1 hts gX4_mist_X4_noWide rfl rfl rfl hdVX4_noWide ⟨Nat.le_of_ble_eq_true rfl, Nat.le_of_ble_eq_true rfl⟩) dX4_mist_9 0 rfl rfl rfl rfl rfl (Nat.le_of_ble_eq_true rfl) rfl (fun H locs hH => ?_)
    have hH : Hs D A s.heap (wMd cI ad xs xm xi xw xh xl xr x32.2 xn xo xp xu xd) H locs := hH
    refine W.eq (g2 := F0 m 12 ls [.long x32.1]) rfl ?_
    have hrs := wp_s hf
    subst hrs
    exact RET H locs ls 12 dX4_mist_12 hH

def bX4_allHeights_4 (xs : (Nat → Int32)) : (Int32 × Int32) → Option ((Int32 × Int32) ⊕ (Int32)) := fun ((t1, t2) : Int32 × Int32) =>
  if (16 : Int32) ≤ t2 then
    some (.inr t1)
  else
    if ob (4 + t2) 53 then none else
    some (.inl (t1 + (xs (Int32.toNatClampNeg (4 + t2))), t2 + 1))

def fX4_allHeights (xs : (Nat → Int32)) : Option (Int32) :=
  Option.bind (lp (bX4_allHeights_4 xs) fu (0, 0)) fun (t3 : Int32) =>
  some t3

def rmX4_allHeights : Room := { frames := 0, cells := 0, slots := 0, locals := 0 }
theorem mbX4_allHeights_f9 : Cond.fieldLink RX4 9 (TX4 0).1 (TX4 0).2.1 (TX4 0).2.2.1 ∈ wsX4_allHeights := by decide +kernel
theorem inX4_allHeights_X4 : ∀ w ∈ wsX40, w ∈ wsX4_allHeights := by decide +kernel
theorem hdVX4_allHeights : yX4_allHeights.cls = RX4 ∧ yX4_allHeights.cls ≠ "java/lang/invoke/MethodHandle" ∧ yX4_allHeights.cls ≠ "java/lang/invoke/VarHandle" ∧ (parseMethodDescriptor yX4_allHeights.desc).map (fun d => d.parameters.length) = some 0 := by decide +kernel
set_option maxHeartbeats 4000000 in
set_option maxRecDepth 100000 in
theorem ctX4_allHeights {l : Launch} {D : va_G} {cI cJ cQ : ClassId} (ad : Nat → Nat) (xs : (Nat → Int32)) (xm : (Nat → Int32)) (xi : (Nat → Int32)) (xw : (Nat → Int32)) (xh : Int32) (xl : (Nat → Int32)) (xr : (Nat → Int32)) (xe : (Nat → Int32)) (xn : Int32) (xo : Int32) (xp : Int32) (xu : (Nat → Int32)) (xd : Int32)  {res : Int32} (h : fX4_allHeights xs = some res) : CtI l D cI cJ cQ yX4_allHeights wsX4_allHeights rmX4_allHeights [.ref (ad 0)] (wMd cI ad xs xm xi xw xh xl xr xe xn xo xp xu xd) res (wMd cI ad xs xm xi xw xh xl xr xe xn xo xp xu xd) := by
  refine ctI_of .int (cc := cX4_allHeights) (maxL := 3) (by decide) rfl (Nat.le_of_ble_eq_true rfl) ?_
  intro p e s m args below meth c A Q ls F hK hA RET hH hl
  obtain ⟨hx, hb, hml, hown, hts⟩ := id F
  have hl : lv_has ls 3 [(0, .ref (ad 0))] := hl
  have hf : wpO (fX4_allHeights xs) (fun v => v = res) := ⟨_, h, rfl⟩
  obtain ⟨H, eH⟩ : ∃ H, H = s.heap := ⟨_, rfl⟩
  obtain ⟨locs, eL⟩ : ∃ locs : List Loc, locs = [] := ⟨_, rfl⟩
  have hH : Hs D A s.heap (wMd cI ad xs xm xi xw xh xl xr xe xn xo xp xu xd) H locs := by rw [eH, eL]; exact hH
  rw [← eL]
  suffices hgo : W p l e rmX4_allHeights s m args below meth c H locs 0 0 Q (F0 m 0 ls []) by rw [eH] at hgo; exact hgo
  clear eH eL
  refine lv_iconst (v := 0) hx hb dX4_allHeights_0 (by decide) ?_
  refine lv_istore_n (lv' := [(1, .int 0), (0, .ref (ad 0))]) hx hb dX4_allHeights_1 rfl hl (by decide) rfl (fun ls hl => ?_)
  refine lv_iconst (v := 0) hx hb dX4_allHeights_2 (by decide) ?_
  refine lv_istore_n (lv' := [(2, .int 0), (1, .int 0), (0, .ref (ad 0))]) hx hb dX4_allHeights_3 rfl hl (by decide) rfl (fun ls hl => ?_)
  have LP : ∀ (Φ : (Int32) → Prop), (∀ (t3 : Int32) (H : Heap) (locs : List Loc) (ls : Array Slot), Φ (t3) → Hs D A s.heap (wMd cI ad xs xm xi xw xh xl xr xe xn xo xp xu xd) H locs → lv_has ls 3 [(1, .int t3)] → W p l e rmX4_allHeights s m args below meth c H locs 0 0 Q (F0 m 27 ls [])) → ∀ (n : Nat) (t1 : Int32) (t2 : Int32) (H : Heap) (locs : List Loc) (ls : Array Slot), wpO (lp (bX4_allHeights_4 xs) n (t1, t2)) Φ → Hs D A s.heap (wMd cI ad xs xm xi xw xh xl xr xe xn xo xp xu xd) H locs → lv_has ls 3 [(0, .ref (ad 0)), (1, .int t1), (2, .int t2)] → W p l e rmX4_allHeights s m args below meth c H locs 0 0 Q (F0 m 4 ls []) := by
    intro Φ EX n
    induction n with
    | zero =>
      intro t1 t2 H locs ls hf hH hl
      exact (wp_l0 hf).elim
    | succ n ih =>
      intro t1 t2 H locs ls hf hH hl
      have hf := wp_l hf
      refine lv_iload_n hx hb dX4_allHeights_4 rfl (lv_at hl 2 rfl) ?_
      refine lv_bipush (v := 16) hx hb dX4_allHeights_5 (by decide) ?_
      refine lv_icmp_ge (tgt := 27) hx hb dX4_allHeights_7 (by decide) (fun hc => ?_) (fun hc => ?_)
      · have hf := wp_t hc hf
        have hw := wp_out hf
        exact EX _ _ _ _ hw hH (lv_sub hl [1] rfl)
      · have hf := wp_f hc hf
        refine lv_iload_n hx hb dX4_allHeights_10 rfl (lv_at hl 1 rfl) ?_
        refine lv_aload_n hx hb dX4_allHeights_11 rfl (lv_at hl 0 rfl) ?_
        refine k_get (v := .ref (ad 1)) F hK hH 0 inX4_allHeights_X4 0 mbX4_allHeights_f9 dX4_allHeights_12 rfl rfl (by decide) rfl ?_
        refine lv_iconst (v := 4) hx hb dX4_allHeights_15 (by decide) ?_
        refine lv_iload_n hx hb dX4_allHeights_16 rfl (lv_at hl 2 rfl) ?_
        refine lv_iadd hx hb dX4_allHeights_17 ?_
        obtain ⟨hi, hf⟩ := wp_n hf
        refine k_iald (f := xs) (n := 53) F hK hH 1 dX4_allHeights_18 hi rfl ?_
        refine lv_iadd hx hb dX4_allHeights_19 ?_
        refine lv_istore_n (lv' := [(1, .int (t1 + (xs (Int32.toNatClampNeg (4 + t2))))), (0, .ref (ad 0)), (2, .int t2)]) hx hb dX4_allHeights_20 rfl hl (by decide) rfl (fun ls hl => ?_)
        refine lv_iinc (v := t2 + 1) (lv' := [(2, .int (t2 + 1)), (1, .int (t1 + (xs (Int32.toNatClampNeg (4 + t2))))), (0, .ref (ad 0))]) hx hb dX4_allHeights_21 hl (k := 2) rfl rfl (by decide) rfl (fun ls hl => ?_)
        refine lv_goto (tgt := 4) hx hb dX4_allHeights_24 (by decide) ?_
        have hw := wp_in hf
        exact ih _ _ _ _ _ hw hH (lv_sub hl [2, 1, 0] rfl)
  refine LP _ (fun t3 H locs ls hf hH hl => ?_) fu _ _ _ _ _ (wp_bb hf) hH (lv_sub hl [2, 1, 0] rfl)
  refine lv_iload_n hx hb dX4_allHeights_27 rfl (lv_at hl 0 rfl) ?_
  have hrs := wp_s hf
  subst hrs
  exact RET H locs ls 28 dX4_allHeights_28 rfl hH

def fX4_mean (v1 : Int32) (xs : (Nat → Int32)) (xe : (Nat → Int32)) : Option (Int64 × (Nat → Int32)) :=
  Option.bind (fX4_isIn v1 0 1) fun x1 =>
  if x1 = 0 then
    Option.bind (fX4_noWide (-2) xe) fun x2 =>
    some (x2.1, x2.2)
  else
    Option.bind (fX4_allHeights xs) fun x3 =>
    Option.bind (fX4_partOf (Int32.toInt64 x3) 16 v1) fun x4 =>
    some (x4, xe)

def rmX4_mean : Room := { frames := 2, cells := 0, slots := 0, locals := 53 }
theorem mbX4_mean_c188 : Cond.constantLong RX4 188 16 ∈ wsX4_mean := by decide +kernel
theorem hdVX4_mean : yX4_mean.cls = RX4 ∧ yX4_mean.cls ≠ "java/lang/invoke/MethodHandle" ∧ yX4_mean.cls ≠ "java/lang/invoke/VarHandle" ∧ (parseMethodDescriptor yX4_mean.desc).map (fun d => d.parameters.length) = some 1 := by decide +kernel
set_option maxHeartbeats 4000000 in
set_option maxRecDepth 100000 in
theorem ctX4_mean {l : Launch} {D : va_G} {cI cJ cQ : ClassId} (ad : Nat → Nat) (xs : (Nat → Int32)) (xm : (Nat → Int32)) (xi : (Nat → Int32)) (xw : (Nat → Int32)) (xh : Int32) (xl : (Nat → Int32)) (xr : (Nat → Int32)) (xe : (Nat → Int32)) (xn : Int32) (xo : Int32) (xp : Int32) (xu : (Nat → Int32)) (xd : Int32) (v1 : Int32) {res : Int64 × (Nat → Int32)} (h : fX4_mean v1 xs xe = some res) : CtL l D cI cJ cQ yX4_mean wsX4_mean rmX4_mean [.ref (ad 0), .int v1] (wMd cI ad xs xm xi xw xh xl xr xe xn xo xp xu xd) res.1 (wMd cI ad xs xm xi xw xh xl xr res.2 xn xo xp xu xd) := by
  refine ctL_of (cc := cX4_mean) (maxL := 2) (by decide) rfl (Nat.le_of_ble_eq_true rfl) ?_
  intro p e s m args below meth c A Q ls F hK hA RET hH hl
  obtain ⟨hx, hb, hml, hown, hts⟩ := id F
  have hl : lv_has ls 2 [(0, .ref (ad 0)), (1, .int v1)] := hl
  have hf : wpO (fX4_mean v1 xs xe) (fun v => v = res) := ⟨_, h, rfl⟩
  obtain ⟨H, eH⟩ : ∃ H, H = s.heap := ⟨_, rfl⟩
  obtain ⟨locs, eL⟩ : ∃ locs : List Loc, locs = [] := ⟨_, rfl⟩
  have hH : Hs D A s.heap (wMd cI ad xs xm xi xw xh xl xr xe xn xo xp xu xd) H locs := by rw [eH, eL]; exact hH
  rw [← eL]
  suffices hgo : W p l e rmX4_mean s m args below meth c H locs 0 0 Q (F0 m 0 ls []) by rw [eH] at hgo; exact hgo
  clear eH eL
  refine lv_iload_n hx hb dX4_mean_0 rfl (lv_at hl 1 rfl) ?_
  refine lv_iconst (v := 0) hx hb dX4_mean_1 (by decide) ?_
  refine lv_iconst (v := 1) hx hb dX4_mean_2 (by decide) ?_
  obtain ⟨x1, hcl, hf⟩ := wp_b hf
  refine k_Si F hK hH hA hl.1 ⟨Nat.zero_le _, Nat.zero_le _⟩ [] [.int v1, .int 0, .int 1] [] (ctX4_isIn v1 0 1 hcl) (va_cwS 3 hts gX4_mean_X4_isIn rfl rfl rfl hdSX4_isIn ⟨Nat.le_of_ble_eq_true rfl, Nat.le_of_ble_eq_true rfl⟩) dX4_mean_3 rfl rfl (Nat.le_of_ble_eq_true rfl) rfl rfl (by decide) (fun H locs hH => ?_)
  have hH : Hs D A s.heap (wMd cI ad xs xm xi xw xh xl xr xe xn xo xp xu xd) H locs := hH
  refine lv_if_eq (tgt := 24) hx hb dX4_mean_6 (by decide) (fun hc => ?_) (fun hc => ?_)
  · have hf := wp_t hc hf
    refine lv_aload_n hx hb dX4_mean_24 rfl (lv_at hl 0 rfl) ?_
    refine lv_bipush (v := (-2)) hx hb dX4_mean_25 (by decide) ?_
    obtain ⟨x2, hcl, hf⟩ := wp_b hf
    refine k_Vl0 F hK hH hA hl.1 ⟨Nat.zero_le _, Nat.zero_le _⟩ [.int (-2)] [] (ctX4_noWide ad xs xm xi xw xh xl xr xe xn xo xp xu xd (-2) hcl) (cwV 1 hts gX4_mean_X4_noWide rfl rfl rfl hdVX4_noWide ⟨Nat.le_of_ble_eq_true rfl, Nat.le_of_ble_eq_true rfl⟩) dX4_mean_27 0 rfl rfl rfl rfl rfl (Nat.le_of_ble_eq_true rfl) rfl (fun H locs hH => ?_)
    have hH : Hs D A s.heap (wMd cI ad xs xm xi xw xh xl xr x2.2 xn xo xp xu xd) H locs := hH
    refine W.eq (g2 := F0 m 30 ls [.long x2.1]) rfl ?_
    have hrs := wp_s hf
    subst hrs
    exact RET H locs ls 30 dX4_mean_30 hH
  · have hf := wp_f hc hf
    refine lv_aload_n hx hb dX4_mean_9 rfl (lv_at hl 0 rfl) ?_
    obtain ⟨x3, hcl, hf⟩ := wp_b hf
    refine k_Vi0 F hK hH hA hl.1 ⟨Nat.zero_le _, Nat.zero_le _⟩ [] [] (ctX4_allHeights ad xs xm xi xw xh xl xr xe xn xo xp xu xd hcl) (cwV 0 hts gX4_mean_X4_allHeights rfl rfl rfl hdVX4_allHeights ⟨Nat.le_of_ble_eq_true rfl, Nat.le_of_ble_eq_true rfl⟩) dX4_mean_10 0 rfl rfl rfl rfl rfl (Nat.le_of_ble_eq_true rfl) rfl (fun H locs hH => ?_)
    have hH : Hs D A s.heap (wMd cI ad xs xm xi xw xh xl xr xe xn xo xp xu xd) H locs := hH
    refine lv_i2l (v := Int32.toInt64 x3) hx hb dX4_mean_13 rfl ?_
    refine lv_ldc2 (v := 16) hx hb hown (hts _ mbX4_mean_c188) dX4_mean_14 ?_
    refine lv_iload_n hx hb dX4_mean_17 rfl (lv_at hl 1 rfl) ?_
    obtain ⟨x4, hcl, hf⟩ := wp_b hf
    refine k_Sl F hK hH hA hl.1 ⟨Nat.zero_le _, Nat.zero_le _⟩ [] [.long (Int32.toInt64 x3), .long 16, .int v1] [] (ctX4_partOf (Int32.toInt64 x3) 16 v1 hcl) (va_cwS 3 hts gX4_mean_X4_partOf rfl rfl rfl hdSX4_partOf ⟨Nat.le_of_ble_eq_true rfl, Nat.le_of_ble_eq_true rfl⟩) dX4_mean_18 rfl rfl (Nat.le_of_ble_eq_true rfl) rfl rfl (by decide) (fun H locs hH => ?_)
    have hH : Hs D A s.heap (wMd cI ad xs xm xi xw xh xl xr xe xn xo xp xu xd) H locs := hH
    refine lv_goto (tgt := 30) hx hb dX4_mean_21 (by decide) ?_
    have hrs := wp_s hf
    subst hrs
    exact RET H locs ls 30 dX4_mean_30 hH

