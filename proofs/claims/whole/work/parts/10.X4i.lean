def bX4_sight_69 (v1 : Int32) (v2 : Int32) : (Int32 × Int32 × Int32 × (Nat → Int32)) → Option ((Int32 × Int32 × Int32 × (Nat → Int32)) ⊕ (Int32 × Int32 × (Nat → Int32))) := fun ((t6, t7, t8, t9) : Int32 × Int32 × Int32 × (Nat → Int32)) =>
  if (60 : Int32) < t8 then
    some (.inr (t6, t7, t9))
  else
    Option.bind (fX4_seenIn v1 t9) fun x13 =>
    Option.bind (fX4_has x13 v2) fun x14 =>
    Option.bind (if x14 = 0 then
        some (t6, t7)
      else
        if t7 = 0 then
          some (t8, t7 + 1)
        else
          some (t6, t7 + 1)) fun ((t15, t16) : Int32 × Int32) =>
    Option.bind (fX4_hour t9) fun x17 =>
    some (.inl (t15, t16, t8 + 1, x17))

def fX4_sight (v1 : Int32) (v2 : Int32) (v3 : Int32) (xs : (Nat → Int32)) (xm : (Nat → Int32)) (xe : (Nat → Int32)) : Option (Int32 × (Nat → Int32) × (Nat → Int32)) :=
  Option.bind (fX4_isBranch v1) fun x1 =>
  Option.bind (if x1 = 0 then
      some (-1)
    else
      Option.bind (fX4_isThing v2 xs) fun x3 =>
      if x3 = 0 then
        some (-1)
      else
        Option.bind (fX4_isIn v3 0 1) fun x4 =>
        if x4 = 0 then
          some (-2)
        else
          some 0) fun (t2 : Int32) =>
  if t2 = 0 then
    Option.bind (fX4_copies xs xm) fun x5 =>
    Option.bind (lp (bX4_sight_69 v1 v2) fu ((-9), 0, 0, x5)) fun ((t10, t11, t12) : Int32 × Int32 × (Nat → Int32)) =>
    if v3 = 0 then
      some (t10, t12, xe)
    else
      some (t11, t12, xe)
  else
    Option.bind (fX4_no t2 xe) fun x18 =>
    some (x18.1, xm, x18.2)

def rmX4_sight : Room := { frames := 3, cells := 0, slots := 0, locals := 66 }
theorem mbX4_sight_f9 : Cond.fieldLink RX4 9 (TX4 0).1 (TX4 0).2.1 (TX4 0).2.2.1 ∈ wsX4_sight := by decide +kernel
theorem inX4_sight_X4 : ∀ w ∈ wsX40, w ∈ wsX4_sight := by decide +kernel
theorem mbX4_sight_f13 : Cond.fieldLink RX4 13 (TX4 1).1 (TX4 1).2.1 (TX4 1).2.2.1 ∈ wsX4_sight := by decide +kernel
theorem hdVX4_sight : yX4_sight.cls = RX4 ∧ yX4_sight.cls ≠ "java/lang/invoke/MethodHandle" ∧ yX4_sight.cls ≠ "java/lang/invoke/VarHandle" ∧ (parseMethodDescriptor yX4_sight.desc).map (fun d => d.parameters.length) = some 3 := by decide +kernel
set_option maxHeartbeats 4000000 in
set_option maxRecDepth 100000 in
theorem ctX4_sight {l : Launch} {D : va_G} {cI cJ cQ : ClassId} (ad : Nat → Nat) (xs : (Nat → Int32)) (xm : (Nat → Int32)) (xi : (Nat → Int32)) (xw : (Nat → Int32)) (xh : Int32) (xl : (Nat → Int32)) (xr : (Nat → Int32)) (xe : (Nat → Int32)) (xn : Int32) (xo : Int32) (xp : Int32) (xu : (Nat → Int32)) (xd : Int32) (v1 : Int32) (v2 : Int32) (v3 : Int32) {res : Int32 × (Nat → Int32) × (Nat → Int32)} (h : fX4_sight v1 v2 v3 xs xm xe = some res) : CtI l D cI cJ cQ yX4_sight wsX4_sight rmX4_sight [.ref (ad 0), .int v1, .int v2, .int v3] (wMd cI ad xs xm xi xw xh xl xr xe xn xo xp xu xd) res.1 (wMd cI ad xs res.2.1 xi xw xh xl xr res.2.2 xn xo xp xu xd) := by
  refine ctI_of .int (cc := cX4_sight) (maxL := 8) (by decide) rfl (Nat.le_of_ble_eq_true rfl) ?_
  intro p e s m args below meth c A Q ls F hK hA RET hH hl
  obtain ⟨hx, hb, hml, hown, hts⟩ := id F
  have hl : lv_has ls 8 [(0, .ref (ad 0)), (1, .int v1), (2, .int v2), (3, .int v3)] := hl
  have hf : wpO (fX4_sight v1 v2 v3 xs xm xe) (fun v => v = res) := ⟨_, h, rfl⟩
  obtain ⟨H, eH⟩ : ∃ H, H = s.heap := ⟨_, rfl⟩
  obtain ⟨locs, eL⟩ : ∃ locs : List Loc, locs = [] := ⟨_, rfl⟩
  have hH : Hs D A s.heap (wMd cI ad xs xm xi xw xh xl xr xe xn xo xp xu xd) H locs := by rw [eH, eL]; exact hH
  rw [← eL]
  suffices hgo : W p l e rmX4_sight s m args below meth c H locs 0 0 Q (F0 m 0 ls []) by rw [eH] at hgo; exact hgo
  clear eH eL
  refine lv_iload_n hx hb dX4_sight_0 rfl (lv_at hl 1 rfl) ?_
  obtain ⟨x1, hcl, hf⟩ := wp_b hf
  refine k_Si F hK hH hA hl.1 ⟨Nat.zero_le _, Nat.zero_le _⟩ [] [.int v1] [] (ctX4_isBranch v1 hcl) (va_cwS 1 hts gX4_sight_X4_isBranch rfl rfl rfl hdSX4_isBranch ⟨Nat.le_of_ble_eq_true rfl, Nat.le_of_ble_eq_true rfl⟩) dX4_sight_1 rfl rfl (Nat.le_of_ble_eq_true rfl) rfl rfl (by decide) (fun H locs hH => ?_)
  have hH : Hs D A s.heap (wMd cI ad xs xm xi xw xh xl xr xe xn xo xp xu xd) H locs := hH
  refine join_ (α := Int32) (fun Φ => ∀ (t2 : Int32) (H : Heap) (locs : List Loc) (ls : Array Slot), Φ t2 → Hs D A s.heap (wMd cI ad xs xm xi xw xh xl xr xe xn xo xp xu xd) H locs → lv_has ls 8 [(0, .ref (ad 0)), (1, .int v1), (2, .int v2), (3, .int v3)] → W p l e rmX4_sight s m args below meth c H locs 0 0 Q (F0 m 34 ls [.int t2])) (wp_bb hf) ?_ ?_
  · intro t2 H locs ls hf hH hl
    refine lv_istore (lv' := [(4, .int t2), (0, .ref (ad 0)), (1, .int v1), (2, .int v2), (3, .int v3)]) hx hb dX4_sight_34 hl (by decide) rfl (fun ls hl => ?_)
    refine lv_iload hx hb dX4_sight_36 (lv_at hl 0 rfl) ?_
    refine lv_if_eq (tgt := 48) hx hb dX4_sight_38 (by decide) (fun hc => ?_) (fun hc => ?_)
    · have hf := wp_t hc hf
      refine lv_aload_n hx hb dX4_sight_48 rfl (lv_at hl 1 rfl) ?_
      refine k_get (v := .ref (ad 1)) F hK hH 0 inX4_sight_X4 0 mbX4_sight_f9 dX4_sight_49 rfl rfl (by decide) rfl ?_
      refine lv_aload_n hx hb dX4_sight_52 rfl (lv_at hl 1 rfl) ?_
      refine k_get (v := .ref (ad 2)) F hK hH 0 inX4_sight_X4 1 mbX4_sight_f13 dX4_sight_53 rfl rfl (by decide) rfl ?_
      obtain ⟨x5, hcl, hf⟩ := wp_b hf
      refine k_Sv F hK hH hA hl.1 ⟨Nat.zero_le _, Nat.zero_le _⟩ [1, 2] [.ref (ad 1), .ref (ad 2)] [] (ctX4_copies (ad 1) (ad 2) xs xm hcl) (va_cwS 2 hts gX4_sight_X4_copies rfl rfl rfl hdSX4_copies ⟨Nat.le_of_ble_eq_true rfl, Nat.le_of_ble_eq_true rfl⟩) dX4_sight_56 rfl rfl (Nat.le_of_ble_eq_true rfl) rfl rfl (by decide) (fun H locs hH => ?_)
      have hH : Hs D A s.heap (wMd cI ad xs x5 xi xw xh xl xr xe xn xo xp xu xd) H locs := hH
      refine lv_bipush (v := (-9)) hx hb dX4_sight_59 (by decide) ?_
      refine lv_istore (lv' := [(5, .int (-9)), (4, .int t2), (0, .ref (ad 0)), (1, .int v1), (2, .int v2), (3, .int v3)]) hx hb dX4_sight_61 hl (by decide) rfl (fun ls hl => ?_)
      refine lv_iconst (v := 0) hx hb dX4_sight_63 (by decide) ?_
      refine lv_istore (lv' := [(6, .int 0), (5, .int (-9)), (4, .int t2), (0, .ref (ad 0)), (1, .int v1), (2, .int v2), (3, .int v3)]) hx hb dX4_sight_64 hl (by decide) rfl (fun ls hl => ?_)
      refine lv_iconst (v := 0) hx hb dX4_sight_66 (by decide) ?_
      refine lv_istore (lv' := [(7, .int 0), (6, .int 0), (5, .int (-9)), (4, .int t2), (0, .ref (ad 0)), (1, .int v1), (2, .int v2), (3, .int v3)]) hx hb dX4_sight_67 hl (by decide) rfl (fun ls hl => ?_)
      have LP : ∀ (Φ : (Int32 × Int32 × (Nat → Int32)) → Prop), (∀ (t10 : Int32) (t11 : Int32) (t12 : (Nat → Int32)) (H : Heap) (locs : List Loc) (ls : Array Slot), Φ ((t10, t11, t12)) → Hs D A s.heap (wMd cI ad xs t12 xi xw xh xl xr xe xn xo xp xu xd) H locs → lv_has ls 8 [(3, .int v3), (5, .int t10), (6, .int t11)] → W p l e rmX4_sight s m args below meth c H locs 0 0 Q (F0 m 121 ls [])) → ∀ (n : Nat) (t6 : Int32) (t7 : Int32) (t8 : Int32) (t9 : (Nat → Int32)) (H : Heap) (locs : List Loc) (ls : Array Slot), wpO (lp (bX4_sight_69 v1 v2) n (t6, t7, t8, t9)) Φ → Hs D A s.heap (wMd cI ad xs t9 xi xw xh xl xr xe xn xo xp xu xd) H locs → lv_has ls 8 [(0, .ref (ad 0)), (1, .int v1), (2, .int v2), (3, .int v3), (5, .int t6), (6, .int t7), (7, .int t8)] → W p l e rmX4_sight s m args below meth c H locs 0 0 Q (F0 m 69 ls []) := by
        intro Φ EX n
        induction n with
        | zero =>
          intro t6 t7 t8 t9 H locs ls hf hH hl
          exact (wp_l0 hf).elim
        | succ n ih =>
          intro t6 t7 t8 t9 H locs ls hf hH hl
          have hf := wp_l hf
          refine lv_iload hx hb dX4_sight_69 (lv_at hl 6 rfl) ?_
          refine lv_bipush (v := 60) hx hb dX4_sight_71 (by decide) ?_
          refine lv_icmp_gt (tgt := 121) hx hb dX4_sight_73 (by decide) (fun hc => ?_) (fun hc => ?_)
          · have hf := wp_t hc hf
            have hw := wp_out hf
            exact EX _ _ _ _ _ _ hw hH (lv_sub hl [3, 4, 5] rfl)
          · have hf := wp_f hc hf
            refine lv_aload_n hx hb dX4_sight_76 rfl (lv_at hl 0 rfl) ?_
            refine k_get (v := .ref (ad 2)) F hK hH 0 inX4_sight_X4 1 mbX4_sight_f13 dX4_sight_77 rfl rfl (by decide) rfl ?_
            refine lv_iload_n hx hb dX4_sight_80 rfl (lv_at hl 1 rfl) ?_
            obtain ⟨x13, hcl, hf⟩ := wp_b hf
            refine k_Si F hK hH hA hl.1 ⟨Nat.zero_le _, Nat.zero_le _⟩ [2] [.ref (ad 2), .int v1] [] (ctX4_seenIn (ad 2) t9 v1 hcl) (va_cwS 2 hts gX4_sight_X4_seenIn rfl rfl rfl hdSX4_seenIn ⟨Nat.le_of_ble_eq_true rfl, Nat.le_of_ble_eq_true rfl⟩) dX4_sight_81 rfl rfl (Nat.le_of_ble_eq_true rfl) rfl rfl (by decide) (fun H locs hH => ?_)
            have hH : Hs D A s.heap (wMd cI ad xs t9 xi xw xh xl xr xe xn xo xp xu xd) H locs := hH
            refine lv_iload_n hx hb dX4_sight_84 rfl (lv_at hl 2 rfl) ?_
            obtain ⟨x14, hcl, hf⟩ := wp_b hf
            refine k_Si F hK hH hA hl.1 ⟨Nat.zero_le _, Nat.zero_le _⟩ [] [.int x13, .int v2] [] (ctX4_has x13 v2 hcl) (va_cwS 2 hts gX4_sight_X4_has rfl rfl rfl hdSX4_has ⟨Nat.le_of_ble_eq_true rfl, Nat.le_of_ble_eq_true rfl⟩) dX4_sight_85 rfl rfl (Nat.le_of_ble_eq_true rfl) rfl rfl (by decide) (fun H locs hH => ?_)
            have hH : Hs D A s.heap (wMd cI ad xs t9 xi xw xh xl xr xe xn xo xp xu xd) H locs := hH
            refine join_ (α := Int32 × Int32) (fun Φ => ∀ (t15 : Int32) (t16 : Int32) (H : Heap) (locs : List Loc) (ls : Array Slot), Φ (t15, t16) → Hs D A s.heap (wMd cI ad xs t9 xi xw xh xl xr xe xn xo xp xu xd) H locs → lv_has ls 8 [(0, .ref (ad 0)), (1, .int v1), (2, .int v2), (3, .int v3), (5, .int t15), (6, .int t16), (7, .int t8)] → W p l e rmX4_sight s m args below meth c H locs 0 0 Q (F0 m 108 ls [])) (wp_bb hf) ?_ ?_
            · intro t15 t16 H locs ls hf hH hl
              refine lv_aload_n hx hb dX4_sight_108 rfl (lv_at hl 0 rfl) ?_
              refine k_get (v := .ref (ad 2)) F hK hH 0 inX4_sight_X4 1 mbX4_sight_f13 dX4_sight_109 rfl rfl (by decide) rfl ?_
              obtain ⟨x17, hcl, hf⟩ := wp_b hf
              refine k_Sv F hK hH hA hl.1 ⟨Nat.zero_le _, Nat.zero_le _⟩ [2] [.ref (ad 2)] [] (ctX4_hour (ad 2) t9 hcl) (va_cwS 1 hts gX4_sight_X4_hour rfl rfl rfl hdSX4_hour ⟨Nat.le_of_ble_eq_true rfl, Nat.le_of_ble_eq_true rfl⟩) dX4_sight_112 rfl rfl (Nat.le_of_ble_eq_true rfl) rfl rfl (by decide) (fun H locs hH => ?_)
              have hH : Hs D A s.heap (wMd cI ad xs x17 xi xw xh xl xr xe xn xo xp xu xd) H locs := hH
              refine lv_iinc (v := t8 + 1) (lv' := [(7, .int (t8 + 1)), (0, .ref (ad 0)), (1, .int v1), (2, .int v2), (3, .int v3), (5, .int t15), (6, .int t16)]) hx hb dX4_sight_115 hl (k := 6) rfl rfl (by decide) rfl (fun ls hl => ?_)
              refine lv_goto (tgt := 69) hx hb dX4_sight_118 (by decide) ?_
              have hw := wp_in hf
              exact ih _ _ _ _ _ _ _ hw hH (lv_sub hl [1, 2, 3, 4, 5, 6, 0] rfl)
            · intro Φ JJ hf
              refine lv_if_eq (tgt := 108) hx hb dX4_sight_88 (by decide) (fun hc => ?_) (fun hc => ?_)
              · have hf := wp_t hc hf
                have hw := wp_s hf
                exact JJ _ _ _ _ _ hw hH (lv_sub hl [0, 1, 2, 3, 4, 5, 6] rfl)
              · have hf := wp_f hc hf
                refine lv_iload hx hb dX4_sight_91 (lv_at hl 5 rfl) ?_
                refine lv_if_ne (tgt := 101) hx hb dX4_sight_93 (by decide) (fun hc => ?_) (fun hc => ?_)
                · have hf := wp_f hc hf
                  refine lv_iload hx hb dX4_sight_101 (lv_at hl 4 rfl) ?_
                  refine lv_istore (lv' := [(5, .int t6), (0, .ref (ad 0)), (1, .int v1), (2, .int v2), (3, .int v3), (6, .int t7), (7, .int t8)]) hx hb dX4_sight_103 hl (by decide) rfl (fun ls hl => ?_)
                  refine lv_iinc (v := t7 + 1) (lv' := [(6, .int (t7 + 1)), (5, .int t6), (0, .ref (ad 0)), (1, .int v1), (2, .int v2), (3, .int v3), (7, .int t8)]) hx hb dX4_sight_105 hl (k := 5) rfl rfl (by decide) rfl (fun ls hl => ?_)
                  have hw := wp_s hf
                  exact JJ _ _ _ _ _ hw hH (lv_sub hl [2, 3, 4, 5, 1, 0, 6] rfl)
                · have hf := wp_t hc hf
                  refine lv_iload hx hb dX4_sight_96 (lv_at hl 6 rfl) ?_
                  refine lv_goto (tgt := 103) hx hb dX4_sight_98 (by decide) ?_
                  refine lv_istore (lv' := [(5, .int t8), (0, .ref (ad 0)), (1, .int v1), (2, .int v2), (3, .int v3), (6, .int t7), (7, .int t8)]) hx hb dX4_sight_103 hl (by decide) rfl (fun ls hl => ?_)
                  refine lv_iinc (v := t7 + 1) (lv' := [(6, .int (t7 + 1)), (5, .int t8), (0, .ref (ad 0)), (1, .int v1), (2, .int v2), (3, .int v3), (7, .int t8)]) hx hb dX4_sight_105 hl (k := 5) rfl rfl (by decide) rfl (fun ls hl => ?_)
                  have hw := wp_s hf
                  exact JJ _ _ _ _ _ hw hH (lv_sub hl [2, 3, 4, 5, 1, 0, 6] rfl)
      refine LP _ (fun t10 t11 t12 H locs ls hf hH hl => ?_) fu _ _ _ _ _ _ _ (wp_bb hf) hH (lv_sub hl [4, 5, 6, 7, 2, 1, 0] rfl)
      refine lv_iload_n hx hb dX4_sight_121 rfl (lv_at hl 0 rfl) ?_
      refine lv_if_ne (tgt := 130) hx hb dX4_sight_122 (by decide) (fun hc => ?_) (fun hc => ?_)
      · have hf := wp_f hc hf
        refine lv_iload hx hb dX4_sight_130 (lv_at hl 2 rfl) ?_
        have hrs := wp_s hf
        subst hrs
        exact RET H locs ls 132 dX4_sight_132 rfl hH
      · have hf := wp_t hc hf
        refine lv_iload hx hb dX4_sight_125 (lv_at hl 1 rfl) ?_
        refine lv_goto (tgt := 132) hx hb dX4_sight_127 (by decide) ?_
        have hrs := wp_s hf
        subst hrs
        exact RET H locs ls 132 dX4_sight_132 rfl hH
    · have hf := wp_f hc hf
      refine lv_aload_n hx hb dX4_sight_41 rfl (lv_at hl 1 rfl) ?_
      refine lv_iload hx hb dX4_sight_42 (lv_at hl 0 rfl) ?_
      obtain ⟨x18, hcl, hf⟩ := wp_b hf
      refine k_Vi0 F hK hH hA hl.1 ⟨Nat.zero_le _, Nat.zero_le _⟩ [.int t2] [] (ctX4_no ad xs xm xi xw xh xl xr xe xn xo xp xu xd t2 hcl) (cwV 1 hts gX4_sight_X4_no rfl rfl rfl hdVX4_no ⟨Nat.le_of_ble_eq_true rfl, Nat.le_of_ble_eq_true rfl⟩) dX4_sight_44 0 rfl rfl rfl rfl rfl (Nat.le_of_ble_eq_true rfl) rfl (fun H locs hH => ?_)
      have hH : Hs D A s.heap (wMd cI ad xs xm xi xw xh xl xr x18.2 xn xo xp xu xd) H locs := hH
      refine W.eq (g2 := F0 m 47 ls [.int x18.1]) rfl ?_
      have hrs := wp_s hf
      subst hrs
      exact RET H locs ls 47 dX4_sight_47 rfl hH
  · intro Φ JJ hf
    refine lv_if_eq (tgt := 15) hx hb dX4_sight_4 (by decide) (fun hc => ?_) (fun hc => ?_)
    · have hf := wp_t hc hf
      refine lv_iconst (v := (-1)) hx hb dX4_sight_15 (by decide) ?_
      refine lv_goto (tgt := 34) hx hb dX4_sight_16 (by decide) ?_
      have hw := wp_s hf
      exact JJ _ _ _ _ hw hH (lv_sub hl [0, 1, 2, 3] rfl)
    · have hf := wp_f hc hf
      refine lv_aload_n hx hb dX4_sight_7 rfl (lv_at hl 0 rfl) ?_
      refine lv_iload_n hx hb dX4_sight_8 rfl (lv_at hl 2 rfl) ?_
      obtain ⟨x3, hcl, hf⟩ := wp_b hf
      refine k_Vi0 F hK hH hA hl.1 ⟨Nat.zero_le _, Nat.zero_le _⟩ [.int v2] [] (ctX4_isThing ad xs xm xi xw xh xl xr xe xn xo xp xu xd v2 hcl) (cwV 1 hts gX4_sight_X4_isThing rfl rfl rfl hdVX4_isThing ⟨Nat.le_of_ble_eq_true rfl, Nat.le_of_ble_eq_true rfl⟩) dX4_sight_9 0 rfl rfl rfl rfl rfl (Nat.le_of_ble_eq_true rfl) rfl (fun H locs hH => ?_)
      have hH : Hs D A s.heap (wMd cI ad xs xm xi xw xh xl xr xe xn xo xp xu xd) H locs := hH
      refine lv_if_ne (tgt := 19) hx hb dX4_sight_12 (by decide) (fun hc => ?_) (fun hc => ?_)
      · have hf := wp_f hc hf
        refine lv_iload_n hx hb dX4_sight_19 rfl (lv_at hl 3 rfl) ?_
        refine lv_iconst (v := 0) hx hb dX4_sight_20 (by decide) ?_
        refine lv_iconst (v := 1) hx hb dX4_sight_21 (by decide) ?_
        obtain ⟨x4, hcl, hf⟩ := wp_b hf
        refine k_Si F hK hH hA hl.1 ⟨Nat.zero_le _, Nat.zero_le _⟩ [] [.int v3, .int 0, .int 1] [] (ctX4_isIn v3 0 1 hcl) (va_cwS 3 hts gX4_sight_X4_isIn rfl rfl rfl hdSX4_isIn ⟨Nat.le_of_ble_eq_true rfl, Nat.le_of_ble_eq_true rfl⟩) dX4_sight_22 rfl rfl (Nat.le_of_ble_eq_true rfl) rfl rfl (by decide) (fun H locs hH => ?_)
        have hH : Hs D A s.heap (wMd cI ad xs xm xi xw xh xl xr xe xn xo xp xu xd) H locs := hH
        refine lv_if_eq (tgt := 32) hx hb dX4_sight_25 (by decide) (fun hc => ?_) (fun hc => ?_)
        · have hf := wp_t hc hf
          refine lv_bipush (v := (-2)) hx hb dX4_sight_32 (by decide) ?_
          have hw := wp_s hf
          exact JJ _ _ _ _ hw hH (lv_sub hl [0, 1, 2, 3] rfl)
        · have hf := wp_f hc hf
          refine lv_iconst (v := 0) hx hb dX4_sight_28 (by decide) ?_
          refine lv_goto (tgt := 34) hx hb dX4_sight_29 (by decide) ?_
          have hw := wp_s hf
          exact JJ _ _ _ _ hw hH (lv_sub hl [0, 1, 2, 3] rfl)
      · have hf := wp_t hc hf
        refine lv_iconst (v := (-1)) hx hb dX4_sight_15 (by decide) ?_
        refine lv_goto (tgt := 34) hx hb dX4_sight_16 (by decide) ?_
        have hw := wp_s hf
        exact JJ _ _ _ _ hw hH (lv_sub hl [0, 1, 2, 3] rfl)

def fX4_doAgree (r : (Nat → Int32)) : Option (Int32) :=
  Option.bind (fX4_verdictIn 0 r) fun x1 =>
  Option.bind (fX4_branchesIn x1 r) fun x2 =>
  Option.bind (fX4_bits x2) fun x3 =>
  if x3 = 10 then
    some 1
  else
    some 0

def rmX4_doAgree : Room := { frames := 6, cells := 0, slots := 0, locals := 136 }
theorem hdSX4_doAgree : yX4_doAgree.cls ≠ "java/lang/invoke/MethodHandle" ∧ yX4_doAgree.cls ≠ "java/lang/invoke/VarHandle" ∧ (parseMethodDescriptor yX4_doAgree.desc).map (fun d => d.parameters.length) = some 1 := by decide +kernel
set_option maxHeartbeats 4000000 in
set_option maxRecDepth 100000 in
theorem ctX4_doAgree {l : Launch} {D : va_G} {cI cJ cQ : ClassId} (da : Nat) (r : (Nat → Int32))  {res : Int32} (h : fX4_doAgree r = some res) : CtI l D cI cJ cQ yX4_doAgree wsX4_doAgree rmX4_doAgree [.ref da] (wAr cI da 53 r) res (wAr cI da 53 r) := by
  refine ctI_of .boolean (cc := cX4_doAgree) (maxL := 1) (by decide) rfl (Nat.le_of_ble_eq_true rfl) ?_
  intro p e s m args below meth c A Q ls F hK hA RET hH hl
  obtain ⟨hx, hb, hml, hown, hts⟩ := id F
  have hl : lv_has ls 1 [(0, .ref da)] := hl
  have hf : wpO (fX4_doAgree r) (fun v => v = res) := ⟨_, h, rfl⟩
  obtain ⟨H, eH⟩ : ∃ H, H = s.heap := ⟨_, rfl⟩
  obtain ⟨locs, eL⟩ : ∃ locs : List Loc, locs = [] := ⟨_, rfl⟩
  have hH : Hs D A s.heap (wAr cI da 53 r) H locs := by rw [eH, eL]; exact hH
  rw [← eL]
  suffices hgo : W p l e rmX4_doAgree s m args below meth c H locs 0 0 Q (F0 m 0 ls []) by rw [eH] at hgo; exact hgo
  clear eH eL
  refine lv_aload_n hx hb dX4_doAgree_0 rfl (lv_at hl 0 rfl) ?_
  refine lv_aload_n hx hb dX4_doAgree_1 rfl (lv_at hl 0 rfl) ?_
  refine lv_iconst (v := 0) hx hb dX4_doAgree_2 (by decide) ?_
  obtain ⟨x1, hcl, hf⟩ := wp_b hf
  refine k_Si F hK hH hA hl.1 ⟨Nat.zero_le _, Nat.zero_le _⟩ [0] [.ref da, .int 0] [.ref da] (ctX4_verdictIn da r 0 hcl) (va_cwS 2 hts gX4_doAgree_X4_verdictIn rfl rfl rfl hdSX4_verdictIn ⟨Nat.le_of_ble_eq_true rfl, Nat.le_of_ble_eq_true rfl⟩) dX4_doAgree_3 rfl rfl (Nat.le_of_ble_eq_true rfl) rfl rfl (by decide) (fun H locs hH => ?_)
  have hH : Hs D A s.heap (wAr cI da 53 r) H locs := hH
  obtain ⟨x2, hcl, hf⟩ := wp_b hf
  refine k_Si F hK hH hA hl.1 ⟨Nat.zero_le _, Nat.zero_le _⟩ [0] [.ref da, .int x1] [] (ctX4_branchesIn da r x1 hcl) (va_cwS 2 hts gX4_doAgree_X4_branchesIn rfl rfl rfl hdSX4_branchesIn ⟨Nat.le_of_ble_eq_true rfl, Nat.le_of_ble_eq_true rfl⟩) dX4_doAgree_6 rfl rfl (Nat.le_of_ble_eq_true rfl) rfl rfl (by decide) (fun H locs hH => ?_)
  have hH : Hs D A s.heap (wAr cI da 53 r) H locs := hH
  obtain ⟨x3, hcl, hf⟩ := wp_b hf
  refine k_Si F hK hH hA hl.1 ⟨Nat.zero_le _, Nat.zero_le _⟩ [] [.int x2] [] (ctX4_bits x2 hcl) (va_cwS 1 hts gX4_doAgree_X4_bits rfl rfl rfl hdSX4_bits ⟨Nat.le_of_ble_eq_true rfl, Nat.le_of_ble_eq_true rfl⟩) dX4_doAgree_9 rfl rfl (Nat.le_of_ble_eq_true rfl) rfl rfl (by decide) (fun H locs hH => ?_)
  have hH : Hs D A s.heap (wAr cI da 53 r) H locs := hH
  refine lv_bipush (v := 10) hx hb dX4_doAgree_12 (by decide) ?_
  refine lv_icmp_ne (tgt := 21) hx hb dX4_doAgree_14 (by decide) (fun hc => ?_) (fun hc => ?_)
  · have hf := wp_f hc hf
    refine lv_iconst (v := 0) hx hb dX4_doAgree_21 (by decide) ?_
    have hrs := wp_s hf
    subst hrs
    exact RET H locs ls 22 dX4_doAgree_22 (by show narrow .boolean (.int 0) = .int 0; rfl) hH
  · have hf := wp_t hc hf
    refine lv_iconst (v := 1) hx hb dX4_doAgree_17 (by decide) ?_
    refine lv_goto (tgt := 22) hx hb dX4_doAgree_18 (by decide) ?_
    have hrs := wp_s hf
    subst hrs
    exact RET H locs ls 22 dX4_doAgree_22 (by show narrow .boolean (.int 1) = .int 1; rfl) hH

def bX4_agree_13  : (Int32 × (Nat → Int32)) → Option ((Int32 × (Nat → Int32)) ⊕ ((Int32 × (Nat → Int32)) ⊕ ((Nat → Int32)))) := fun ((t2, t3) : Int32 × (Nat → Int32)) =>
  if (60 : Int32) < t2 then
    some (.inr (.inr t3))
  else
    Option.bind (fX4_doAgree t3) fun x5 =>
    if x5 = 0 then
      Option.bind (fX4_hour t3) fun x6 =>
      some (.inl (t2 + 1, x6))
    else
      some (.inr (.inl (t2, t3)))

def fX4_agree (xs : (Nat → Int32)) (xm : (Nat → Int32)) : Option (Int32 × (Nat → Int32)) :=
  Option.bind (fX4_copies xs xm) fun x1 =>
  Option.bind (lp bX4_agree_13 fu (0, x1)) (el (fun v => some v) (fun (t4 : (Nat → Int32)) =>
    some ((-9), t4)))

def rmX4_agree : Room := { frames := 7, cells := 0, slots := 0, locals := 156 }
theorem mbX4_agree_f9 : Cond.fieldLink RX4 9 (TX4 0).1 (TX4 0).2.1 (TX4 0).2.2.1 ∈ wsX4_agree := by decide +kernel
theorem inX4_agree_X4 : ∀ w ∈ wsX40, w ∈ wsX4_agree := by decide +kernel
theorem mbX4_agree_f13 : Cond.fieldLink RX4 13 (TX4 1).1 (TX4 1).2.1 (TX4 1).2.2.1 ∈ wsX4_agree := by decide +kernel
theorem hdVX4_agree : yX4_agree.cls = RX4 ∧ yX4_agree.cls ≠ "java/lang/invoke/MethodHandle" ∧ yX4_agree.cls ≠ "java/lang/invoke/VarHandle" ∧ (parseMethodDescriptor yX4_agree.desc).map (fun d => d.parameters.length) = some 0 := by decide +kernel
set_option maxHeartbeats 4000000 in
set_option maxRecDepth 100000 in
theorem ctX4_agree {l : Launch} {D : va_G} {cI cJ cQ : ClassId} (ad : Nat → Nat) (xs : (Nat → Int32)) (xm : (Nat → Int32)) (xi : (Nat → Int32)) (xw : (Nat → Int32)) (xh : Int32) (xl : (Nat → Int32)) (xr : (Nat → Int32)) (xe : (Nat → Int32)) (xn : Int32) (xo : Int32) (xp : Int32) (xu : (Nat → Int32)) (xd : Int32)  {res : Int32 × (Nat → Int32)} (h : fX4_agree xs xm = some res) : CtI l D cI cJ cQ yX4_agree wsX4_agree rmX4_agree [.ref (ad 0)] (wMd cI ad xs xm xi xw xh xl xr xe xn xo xp xu xd) res.1 (wMd cI ad xs res.2 xi xw xh xl xr xe xn xo xp xu xd) := by
  refine ctI_of .int (cc := cX4_agree) (maxL := 2) (by decide) rfl (Nat.le_of_ble_eq_true rfl) ?_
  intro p e s m args below meth c A Q ls F hK hA RET hH hl
  obtain ⟨hx, hb, hml, hown, hts⟩ := id F
  have hl : lv_has ls 2 [(0, .ref (ad 0))] := hl
  have hf : wpO (fX4_agree xs xm) (fun v => v = res) := ⟨_, h, rfl⟩
  obtain ⟨H, eH⟩ : ∃ H, H = s.heap := ⟨_, rfl⟩
  obtain ⟨locs, eL⟩ : ∃ locs : List Loc, locs = [] := ⟨_, rfl⟩
  have hH : Hs D A s.heap (wMd cI ad xs xm xi xw xh xl xr xe xn xo xp xu xd) H locs := by rw [eH, eL]; exact hH
  rw [← eL]
  suffices hgo : W p l e rmX4_agree s m args below meth c H locs 0 0 Q (F0 m 0 ls []) by rw [eH] at hgo; exact hgo
  clear eH eL
  refine lv_aload_n hx hb dX4_agree_0 rfl (lv_at hl 0 rfl) ?_
  refine k_get (v := .ref (ad 1)) F hK hH 0 inX4_agree_X4 0 mbX4_agree_f9 dX4_agree_1 rfl rfl (by decide) rfl ?_
  refine lv_aload_n hx hb dX4_agree_4 rfl (lv_at hl 0 rfl) ?_
  refine k_get (v := .ref (ad 2)) F hK hH 0 inX4_agree_X4 1 mbX4_agree_f13 dX4_agree_5 rfl rfl (by decide) rfl ?_
  obtain ⟨x1, hcl, hf⟩ := wp_b hf
  refine k_Sv F hK hH hA hl.1 ⟨Nat.zero_le _, Nat.zero_le _⟩ [1, 2] [.ref (ad 1), .ref (ad 2)] [] (ctX4_copies (ad 1) (ad 2) xs xm hcl) (va_cwS 2 hts gX4_agree_X4_copies rfl rfl rfl hdSX4_copies ⟨Nat.le_of_ble_eq_true rfl, Nat.le_of_ble_eq_true rfl⟩) dX4_agree_8 rfl rfl (Nat.le_of_ble_eq_true rfl) rfl rfl (by decide) (fun H locs hH => ?_)
  have hH : Hs D A s.heap (wMd cI ad xs x1 xi xw xh xl xr xe xn xo xp xu xd) H locs := hH
  refine lv_iconst (v := 0) hx hb dX4_agree_11 (by decide) ?_
  refine lv_istore_n (lv' := [(1, .int 0), (0, .ref (ad 0))]) hx hb dX4_agree_12 rfl hl (by decide) rfl (fun ls hl => ?_)
  have LP : ∀ (Φ : ((Int32 × (Nat → Int32)) ⊕ ((Nat → Int32))) → Prop), (∀ v : Int32 × (Nat → Int32), Φ (.inl v) → v = res) → (∀ (t4 : (Nat → Int32)) (H : Heap) (locs : List Loc) (ls : Array Slot), Φ (.inr t4) → Hs D A s.heap (wMd cI ad xs t4 xi xw xh xl xr xe xn xo xp xu xd) H locs → lv_has ls 2 [] → W p l e rmX4_agree s m args below meth c H locs 0 0 Q (F0 m 44 ls [])) → ∀ (n : Nat) (t2 : Int32) (t3 : (Nat → Int32)) (H : Heap) (locs : List Loc) (ls : Array Slot), wpO (lp bX4_agree_13 n (t2, t3)) Φ → Hs D A s.heap (wMd cI ad xs t3 xi xw xh xl xr xe xn xo xp xu xd) H locs → lv_has ls 2 [(0, .ref (ad 0)), (1, .int t2)] → W p l e rmX4_agree s m args below meth c H locs 0 0 Q (F0 m 13 ls []) := by
    intro Φ hret EX n
    induction n with
    | zero =>
      intro t2 t3 H locs ls hf hH hl
      exact (wp_l0 hf).elim
    | succ n ih =>
      intro t2 t3 H locs ls hf hH hl
      have hf := wp_l hf
      refine lv_iload_n hx hb dX4_agree_13 rfl (lv_at hl 1 rfl) ?_
      refine lv_bipush (v := 60) hx hb dX4_agree_14 (by decide) ?_
      refine lv_icmp_gt (tgt := 44) hx hb dX4_agree_16 (by decide) (fun hc => ?_) (fun hc => ?_)
      · have hf := wp_t hc hf
        have hw := wp_out hf
        exact EX _ _ _ _ hw hH (lv_sub hl [] rfl)
      · have hf := wp_f hc hf
        refine lv_aload_n hx hb dX4_agree_19 rfl (lv_at hl 0 rfl) ?_
        refine k_get (v := .ref (ad 2)) F hK hH 0 inX4_agree_X4 1 mbX4_agree_f13 dX4_agree_20 rfl rfl (by decide) rfl ?_
        obtain ⟨x5, hcl, hf⟩ := wp_b hf
        refine k_Si F hK hH hA hl.1 ⟨Nat.zero_le _, Nat.zero_le _⟩ [2] [.ref (ad 2)] [] (ctX4_doAgree (ad 2) t3 hcl) (va_cwS 1 hts gX4_agree_X4_doAgree rfl rfl rfl hdSX4_doAgree ⟨Nat.le_of_ble_eq_true rfl, Nat.le_of_ble_eq_true rfl⟩) dX4_agree_23 rfl rfl (Nat.le_of_ble_eq_true rfl) rfl rfl (by decide) (fun H locs hH => ?_)
        have hH : Hs D A s.heap (wMd cI ad xs t3 xi xw xh xl xr xe xn xo xp xu xd) H locs := hH
        refine lv_if_eq (tgt := 31) hx hb dX4_agree_26 (by decide) (fun hc => ?_) (fun hc => ?_)
        · have hf := wp_t hc hf
          refine lv_aload_n hx hb dX4_agree_31 rfl (lv_at hl 0 rfl) ?_
          refine k_get (v := .ref (ad 2)) F hK hH 0 inX4_agree_X4 1 mbX4_agree_f13 dX4_agree_32 rfl rfl (by decide) rfl ?_
          obtain ⟨x6, hcl, hf⟩ := wp_b hf
          refine k_Sv F hK hH hA hl.1 ⟨Nat.zero_le _, Nat.zero_le _⟩ [2] [.ref (ad 2)] [] (ctX4_hour (ad 2) t3 hcl) (va_cwS 1 hts gX4_agree_X4_hour rfl rfl rfl hdSX4_hour ⟨Nat.le_of_ble_eq_true rfl, Nat.le_of_ble_eq_true rfl⟩) dX4_agree_35 rfl rfl (Nat.le_of_ble_eq_true rfl) rfl rfl (by decide) (fun H locs hH => ?_)
          have hH : Hs D A s.heap (wMd cI ad xs x6 xi xw xh xl xr xe xn xo xp xu xd) H locs := hH
          refine lv_iinc (v := t2 + 1) (lv' := [(1, .int (t2 + 1)), (0, .ref (ad 0))]) hx hb dX4_agree_38 hl (k := 1) rfl rfl (by decide) rfl (fun ls hl => ?_)
          refine lv_goto (tgt := 13) hx hb dX4_agree_41 (by decide) ?_
          have hw := wp_in hf
          exact ih _ _ _ _ _ hw hH (lv_sub hl [1, 0] rfl)
        · have hf := wp_f hc hf
          refine lv_iload_n hx hb dX4_agree_29 rfl (lv_at hl 1 rfl) ?_
          have hrs := hret _ (wp_out hf)
          subst hrs
          exact RET H locs ls 30 dX4_agree_30 rfl hH
  refine LP _ (fun v hv => by have h9 := wp_s hv; exact h9) (fun t4 H locs ls hf hH hl => ?_) fu _ _ _ _ _ (wp_bb hf) hH (lv_sub hl [1, 0] rfl)
  refine lv_bipush (v := (-9)) hx hb dX4_agree_44 (by decide) ?_
  have hrs := wp_s hf
  subst hrs
  exact RET H locs ls 46 dX4_agree_46 rfl hH

def bX4_appeal_26 (xs : (Nat → Int32)) (xe : (Nat → Int32)) (x2 : Int32) : (Int32) → Option ((Int32) ⊕ ((Int32 × (Nat → Int32)) ⊕ (Unit))) := fun (t3 : Int32) =>
  if (10 : Int32) ≤ t3 then
    some (.inr (.inr ()))
  else
    Option.bind (fX4_verdictIn t3 xs) fun x4 =>
    if x4 = x2 then
      some (.inl (t3 + 1))
    else
      some (.inr (.inl (t3, xe)))

def fX4_appeal (v1 : Int32) (xs : (Nat → Int32)) (xe : (Nat → Int32)) : Option (Int32 × (Nat → Int32)) :=
  Option.bind (fX4_isBranch v1) fun x1 =>
  if x1 = 0 then
    Option.bind (fX4_no (-1) xe) fun x5 =>
    some (x5.1, x5.2)
  else
    Option.bind (fX4_verdictIn v1 xs) fun x2 =>
    Option.bind (lp (bX4_appeal_26 xs xe x2) fu (v1 + 1)) (el (fun v => some v) (fun (_ : Unit) =>
      some ((-9), xe)))

def rmX4_appeal : Room := { frames := 5, cells := 0, slots := 0, locals := 113 }
theorem mbX4_appeal_f9 : Cond.fieldLink RX4 9 (TX4 0).1 (TX4 0).2.1 (TX4 0).2.2.1 ∈ wsX4_appeal := by decide +kernel
theorem inX4_appeal_X4 : ∀ w ∈ wsX40, w ∈ wsX4_appeal := by decide +kernel
theorem hdVX4_appeal : yX4_appeal.cls = RX4 ∧ yX4_appeal.cls ≠ "java/lang/invoke/MethodHandle" ∧ yX4_appeal.cls ≠ "java/lang/invoke/VarHandle" ∧ (parseMethodDescriptor yX4_appeal.desc).map (fun d => d.parameters.length) = some 1 := by decide +kernel
set_option maxHeartbeats 4000000 in
set_option maxRecDepth 100000 in
theorem ctX4_appeal {l : Launch} {D : va_G} {cI cJ cQ : ClassId} (ad : Nat → Nat) (xs : (Nat → Int32)) (xm : (Nat → Int32)) (xi : (Nat → Int32)) (xw : (Nat → Int32)) (xh : Int32) (xl : (Nat → Int32)) (xr : (Nat → Int32)) (xe : (Nat → Int32)) (xn : Int32) (xo : Int32) (xp : Int32) (xu : (Nat → Int32)) (xd : Int32) (v1 : Int32) {res : Int32 × (Nat → Int32)} (h : fX4_appeal v1 xs xe = some res) : CtI l D cI cJ cQ yX4_appeal wsX4_appeal rmX4_appeal [.ref (ad 0), .int v1] (wMd cI ad xs xm xi xw xh xl xr xe xn xo xp xu xd) res.1 (wMd cI ad xs xm xi xw xh xl xr res.2 xn xo xp xu xd) := by
  refine ctI_of .int (cc := cX4_appeal) (maxL := 4) (by decide) rfl (Nat.le_of_ble_eq_true rfl) ?_
  intro p e s m args below meth c A Q ls F hK hA RET hH hl
  obtain ⟨hx, hb, hml, hown, hts⟩ := id F
  have hl : lv_has ls 4 [(0, .ref (ad 0)), (1, .int v1)] := hl
  have hf : wpO (fX4_appeal v1 xs xe) (fun v => v = res) := ⟨_, h, rfl⟩
  obtain ⟨H, eH⟩ : ∃ H, H = s.heap := ⟨_, rfl⟩
  obtain ⟨locs, eL⟩ : ∃ locs : List Loc, locs = [] := ⟨_, rfl⟩
  have hH : Hs D A s.heap (wMd cI ad xs xm xi xw xh xl xr xe xn xo xp xu xd) H locs := by rw [eH, eL]; exact hH
  rw [← eL]
  suffices hgo : W p l e rmX4_appeal s m args below meth c H locs 0 0 Q (F0 m 0 ls []) by rw [eH] at hgo; exact hgo
  clear eH eL
  refine lv_iload_n hx hb dX4_appeal_0 rfl (lv_at hl 1 rfl) ?_
  obtain ⟨x1, hcl, hf⟩ := wp_b hf
  refine k_Si F hK hH hA hl.1 ⟨Nat.zero_le _, Nat.zero_le _⟩ [] [.int v1] [] (ctX4_isBranch v1 hcl) (va_cwS 1 hts gX4_appeal_X4_isBranch rfl rfl rfl hdSX4_isBranch ⟨Nat.le_of_ble_eq_true rfl, Nat.le_of_ble_eq_true rfl⟩) dX4_appeal_1 rfl rfl (Nat.le_of_ble_eq_true rfl) rfl rfl (by decide) (fun H locs hH => ?_)
  have hH : Hs D A s.heap (wMd cI ad xs xm xi xw xh xl xr xe xn xo xp xu xd) H locs := hH
  refine lv_if_ne (tgt := 13) hx hb dX4_appeal_4 (by decide) (fun hc => ?_) (fun hc => ?_)
  · have hf := wp_f hc hf
    refine lv_aload_n hx hb dX4_appeal_13 rfl (lv_at hl 0 rfl) ?_
    refine k_get (v := .ref (ad 1)) F hK hH 0 inX4_appeal_X4 0 mbX4_appeal_f9 dX4_appeal_14 rfl rfl (by decide) rfl ?_
    refine lv_iload_n hx hb dX4_appeal_17 rfl (lv_at hl 1 rfl) ?_
    obtain ⟨x2, hcl, hf⟩ := wp_b hf
    refine k_Si F hK hH hA hl.1 ⟨Nat.zero_le _, Nat.zero_le _⟩ [1] [.ref (ad 1), .int v1] [] (ctX4_verdictIn (ad 1) xs v1 hcl) (va_cwS 2 hts gX4_appeal_X4_verdictIn rfl rfl rfl hdSX4_verdictIn ⟨Nat.le_of_ble_eq_true rfl, Nat.le_of_ble_eq_true rfl⟩) dX4_appeal_18 rfl rfl (Nat.le_of_ble_eq_true rfl) rfl rfl (by decide) (fun H locs hH => ?_)
    have hH : Hs D A s.heap (wMd cI ad xs xm xi xw xh xl xr xe xn xo xp xu xd) H locs := hH
    refine lv_istore_n (lv' := [(2, .int x2), (0, .ref (ad 0)), (1, .int v1)]) hx hb dX4_appeal_21 rfl hl (by decide) rfl (fun ls hl => ?_)
    refine lv_iload_n hx hb dX4_appeal_22 rfl (lv_at hl 2 rfl) ?_
    refine lv_iconst (v := 1) hx hb dX4_appeal_23 (by decide) ?_
    refine lv_iadd hx hb dX4_appeal_24 ?_
    refine lv_istore_n (lv' := [(3, .int (v1 + 1)), (2, .int x2), (0, .ref (ad 0)), (1, .int v1)]) hx hb dX4_appeal_25 rfl hl (by decide) rfl (fun ls hl => ?_)
    have LP : ∀ (Φ : ((Int32 × (Nat → Int32)) ⊕ (Unit)) → Prop), (∀ v : Int32 × (Nat → Int32), Φ (.inl v) → v = res) → (∀ (_ : Unit) (H : Heap) (locs : List Loc) (ls : Array Slot), Φ (.inr ()) → Hs D A s.heap (wMd cI ad xs xm xi xw xh xl xr xe xn xo xp xu xd) H locs → lv_has ls 4 [] → W p l e rmX4_appeal s m args below meth c H locs 0 0 Q (F0 m 52 ls [])) → ∀ (n : Nat) (t3 : Int32) (H : Heap) (locs : List Loc) (ls : Array Slot), wpO (lp (bX4_appeal_26 xs xe x2) n t3) Φ → Hs D A s.heap (wMd cI ad xs xm xi xw xh xl xr xe xn xo xp xu xd) H locs → lv_has ls 4 [(0, .ref (ad 0)), (2, .int x2), (3, .int t3)] → W p l e rmX4_appeal s m args below meth c H locs 0 0 Q (F0 m 26 ls []) := by
      intro Φ hret EX n
      induction n with
      | zero =>
        intro t3 H locs ls hf hH hl
        exact (wp_l0 hf).elim
      | succ n ih =>
        intro t3 H locs ls hf hH hl
        have hf := wp_l hf
        refine lv_iload_n hx hb dX4_appeal_26 rfl (lv_at hl 2 rfl) ?_
        refine lv_bipush (v := 10) hx hb dX4_appeal_27 (by decide) ?_
        refine lv_icmp_ge (tgt := 52) hx hb dX4_appeal_29 (by decide) (fun hc => ?_) (fun hc => ?_)
        · have hf := wp_t hc hf
          have hw := wp_out hf
          exact EX () _ _ _ hw hH (lv_sub hl [] rfl)
        · have hf := wp_f hc hf
          refine lv_aload_n hx hb dX4_appeal_32 rfl (lv_at hl 0 rfl) ?_
          refine k_get (v := .ref (ad 1)) F hK hH 0 inX4_appeal_X4 0 mbX4_appeal_f9 dX4_appeal_33 rfl rfl (by decide) rfl ?_
          refine lv_iload_n hx hb dX4_appeal_36 rfl (lv_at hl 2 rfl) ?_
          obtain ⟨x4, hcl, hf⟩ := wp_b hf
          refine k_Si F hK hH hA hl.1 ⟨Nat.zero_le _, Nat.zero_le _⟩ [1] [.ref (ad 1), .int t3] [] (ctX4_verdictIn (ad 1) xs t3 hcl) (va_cwS 2 hts gX4_appeal_X4_verdictIn rfl rfl rfl hdSX4_verdictIn ⟨Nat.le_of_ble_eq_true rfl, Nat.le_of_ble_eq_true rfl⟩) dX4_appeal_37 rfl rfl (Nat.le_of_ble_eq_true rfl) rfl rfl (by decide) (fun H locs hH => ?_)
          have hH : Hs D A s.heap (wMd cI ad xs xm xi xw xh xl xr xe xn xo xp xu xd) H locs := hH
          refine lv_iload_n hx hb dX4_appeal_40 rfl (lv_at hl 1 rfl) ?_
          refine lv_icmp_eq (tgt := 46) hx hb dX4_appeal_41 (by decide) (fun hc => ?_) (fun hc => ?_)
          · have hf := wp_t hc hf
            refine lv_iinc (v := t3 + 1) (lv' := [(3, .int (t3 + 1)), (0, .ref (ad 0)), (2, .int x2)]) hx hb dX4_appeal_46 hl (k := 2) rfl rfl (by decide) rfl (fun ls hl => ?_)
            refine lv_goto (tgt := 26) hx hb dX4_appeal_49 (by decide) ?_
            have hw := wp_in hf
            exact ih _ _ _ _ hw hH (lv_sub hl [1, 2, 0] rfl)
          · have hf := wp_f hc hf
            refine lv_iload_n hx hb dX4_appeal_44 rfl (lv_at hl 2 rfl) ?_
            have hrs := hret _ (wp_out hf)
            subst hrs
            exact RET H locs ls 45 dX4_appeal_45 rfl hH
    refine LP _ (fun v hv => by have h9 := wp_s hv; exact h9) (fun _ H locs ls hf hH hl => ?_) fu _ _ _ _ (wp_bb hf) hH (lv_sub hl [2, 1, 0] rfl)
    refine lv_bipush (v := (-9)) hx hb dX4_appeal_52 (by decide) ?_
    have hrs := wp_s hf
    subst hrs
    exact RET H locs ls 54 dX4_appeal_54 rfl hH
  · have hf := wp_t hc hf
    refine lv_aload_n hx hb dX4_appeal_7 rfl (lv_at hl 0 rfl) ?_
    refine lv_iconst (v := (-1)) hx hb dX4_appeal_8 (by decide) ?_
    obtain ⟨x5, hcl, hf⟩ := wp_b hf
    refine k_Vi0 F hK hH hA hl.1 ⟨Nat.zero_le _, Nat.zero_le _⟩ [.int (-1)] [] (ctX4_no ad xs xm xi xw xh xl xr xe xn xo xp xu xd (-1) hcl) (cwV 1 hts gX4_appeal_X4_no rfl rfl rfl hdVX4_no ⟨Nat.le_of_ble_eq_true rfl, Nat.le_of_ble_eq_true rfl⟩) dX4_appeal_9 0 rfl rfl rfl rfl rfl (Nat.le_of_ble_eq_true rfl) rfl (fun H locs hH => ?_)
    have hH : Hs D A s.heap (wMd cI ad xs xm xi xw xh xl xr x5.2 xn xo xp xu xd) H locs := hH
    refine W.eq (g2 := F0 m 12 ls [.int x5.1]) rfl ?_
    have hrs := wp_s hf
    subst hrs
    exact RET H locs ls 12 dX4_appeal_12 rfl hH

def fX4_branches (v1 : Int32) (xs : (Nat → Int32)) (xe : (Nat → Int32)) : Option (Int32 × (Nat → Int32)) :=
  Option.bind (fX4_isVerdict v1) fun x1 =>
  if x1 = 0 then
    Option.bind (fX4_no (-2) xe) fun x2 =>
    some (x2.1, x2.2)
  else
    Option.bind (fX4_branchesIn v1 xs) fun x3 =>
    some (x3, xe)

def rmX4_branches : Room := { frames := 6, cells := 0, slots := 0, locals := 136 }
theorem mbX4_branches_f9 : Cond.fieldLink RX4 9 (TX4 0).1 (TX4 0).2.1 (TX4 0).2.2.1 ∈ wsX4_branches := by decide +kernel
theorem inX4_branches_X4 : ∀ w ∈ wsX40, w ∈ wsX4_branches := by decide +kernel
theorem hdVX4_branches : yX4_branches.cls = RX4 ∧ yX4_branches.cls ≠ "java/lang/invoke/MethodHandle" ∧ yX4_branches.cls ≠ "java/lang/invoke/VarHandle" ∧ (parseMethodDescriptor yX4_branches.desc).map (fun d => d.parameters.length) = some 1 := by decide +kernel
set_option maxHeartbeats 4000000 in
set_option maxRecDepth 100000 in
theorem ctX4_branches {l : Launch} {D : va_G} {cI cJ cQ : ClassId} (ad : Nat → Nat) (xs : (Nat → Int32)) (xm : (Nat → Int32)) (xi : (Nat → Int32)) (xw : (Nat → Int32)) (xh : Int32) (xl : (Nat → Int32)) (xr : (Nat → Int32)) (xe : (Nat → Int32)) (xn : Int32) (xo : Int32) (xp : Int32) (xu : (Nat → Int32)) (xd : Int32) (v1 : Int32) {res : Int32 × (Nat → Int32)} (h : fX4_branches v1 xs xe = some res) : CtI l D cI cJ cQ yX4_branches wsX4_branches rmX4_branches [.ref (ad 0), .int v1] (wMd cI ad xs xm xi xw xh xl xr xe xn xo xp xu xd) res.1 (wMd cI ad xs xm xi xw xh xl xr res.2 xn xo xp xu xd) := by
  refine ctI_of .int (cc := cX4_branches) (maxL := 2) (by decide) rfl (Nat.le_of_ble_eq_true rfl) ?_
  intro p e s m args below meth c A Q ls F hK hA RET hH hl
  obtain ⟨hx, hb, hml, hown, hts⟩ := id F
  have hl : lv_has ls 2 [(0, .ref (ad 0)), (1, .int v1)] := hl
  have hf : wpO (fX4_branches v1 xs xe) (fun v => v = res) := ⟨_, h, rfl⟩
  obtain ⟨H, eH⟩ : ∃ H, H = s.heap := ⟨_, rfl⟩
  obtain ⟨locs, eL⟩ : ∃ locs : List Loc, locs = [] := ⟨_, rfl⟩
  have hH : Hs D A s.heap (wMd cI ad xs xm xi xw xh xl xr xe xn xo xp xu xd) H locs := by rw [eH, eL]; exact hH
  rw [← eL]
  suffices hgo : W p l e rmX4_branches s m args below meth c H locs 0 0 Q (F0 m 0 ls []) by rw [eH] at hgo; exact hgo
  clear eH eL
  refine lv_iload_n hx hb dX4_branches_0 rfl (lv_at hl 1 rfl) ?_
  obtain ⟨x1, hcl, hf⟩ := wp_b hf
  refine k_Si F hK hH hA hl.1 ⟨Nat.zero_le _, Nat.zero_le _⟩ [] [.int v1] [] (ctX4_isVerdict v1 hcl) (va_cwS 1 hts gX4_branches_X4_isVerdict rfl rfl rfl hdSX4_isVerdict ⟨Nat.le_of_ble_eq_true rfl, Nat.le_of_ble_eq_true rfl⟩) dX4_branches_1 rfl rfl (Nat.le_of_ble_eq_true rfl) rfl rfl (by decide) (fun H locs hH => ?_)
  have hH : Hs D A s.heap (wMd cI ad xs xm xi xw xh xl xr xe xn xo xp xu xd) H locs := hH
  refine lv_if_eq (tgt := 18) hx hb dX4_branches_4 (by decide) (fun hc => ?_) (fun hc => ?_)
  · have hf := wp_t hc hf
    refine lv_aload_n hx hb dX4_branches_18 rfl (lv_at hl 0 rfl) ?_
    refine lv_bipush (v := (-2)) hx hb dX4_branches_19 (by decide) ?_
    obtain ⟨x2, hcl, hf⟩ := wp_b hf
    refine k_Vi0 F hK hH hA hl.1 ⟨Nat.zero_le _, Nat.zero_le _⟩ [.int (-2)] [] (ctX4_no ad xs xm xi xw xh xl xr xe xn xo xp xu xd (-2) hcl) (cwV 1 hts gX4_branches_X4_no rfl rfl rfl hdVX4_no ⟨Nat.le_of_ble_eq_true rfl, Nat.le_of_ble_eq_true rfl⟩) dX4_branches_21 0 rfl rfl rfl rfl rfl (Nat.le_of_ble_eq_true rfl) rfl (fun H locs hH => ?_)
    have hH : Hs D A s.heap (wMd cI ad xs xm xi xw xh xl xr x2.2 xn xo xp xu xd) H locs := hH
    refine W.eq (g2 := F0 m 24 ls [.int x2.1]) rfl ?_
    have hrs := wp_s hf
    subst hrs
    exact RET H locs ls 24 dX4_branches_24 rfl hH
  · have hf := wp_f hc hf
    refine lv_aload_n hx hb dX4_branches_7 rfl (lv_at hl 0 rfl) ?_
    refine k_get (v := .ref (ad 1)) F hK hH 0 inX4_branches_X4 0 mbX4_branches_f9 dX4_branches_8 rfl rfl (by decide) rfl ?_
    refine lv_iload_n hx hb dX4_branches_11 rfl (lv_at hl 1 rfl) ?_
    obtain ⟨x3, hcl, hf⟩ := wp_b hf
    refine k_Si F hK hH hA hl.1 ⟨Nat.zero_le _, Nat.zero_le _⟩ [1] [.ref (ad 1), .int v1] [] (ctX4_branchesIn (ad 1) xs v1 hcl) (va_cwS 2 hts gX4_branches_X4_branchesIn rfl rfl rfl hdSX4_branchesIn ⟨Nat.le_of_ble_eq_true rfl, Nat.le_of_ble_eq_true rfl⟩) dX4_branches_12 rfl rfl (Nat.le_of_ble_eq_true rfl) rfl rfl (by decide) (fun H locs hH => ?_)
    have hH : Hs D A s.heap (wMd cI ad xs xm xi xw xh xl xr xe xn xo xp xu xd) H locs := hH
    refine lv_goto (tgt := 24) hx hb dX4_branches_15 (by decide) ?_
    have hrs := wp_s hf
    subst hrs
    exact RET H locs ls 24 dX4_branches_24 rfl hH

def bX4_timesOf_17 (v1 : Int32) (v2 : Int32) (v3 : Int32) : (Int32 × Int32 × (Nat → Int32)) → Option ((Int32 × Int32 × (Nat → Int32)) ⊕ (Int32 × (Nat → Int32))) := fun ((t2, t3, t4) : Int32 × Int32 × (Nat → Int32)) =>
  if v3 < t3 then
    some (.inr (t2, t4))
  else
    Option.bind (fX4_verdictIn v1 t4) fun x7 =>
    Option.bind (if x7 = v2 then
        some 1
      else
        some 0) fun (t8 : Int32) =>
    Option.bind (fX4_hour t4) fun x9 =>
    some (.inl (t2 + t8, t3 + 1, x9))

def fX4_timesOf (v1 : Int32) (v2 : Int32) (v3 : Int32) (xs : (Nat → Int32)) (xm : (Nat → Int32)) : Option (Int32 × (Nat → Int32)) :=
  Option.bind (fX4_copies xs xm) fun x1 =>
  Option.bind (lp (bX4_timesOf_17 v1 v2 v3) fu (0, 0, x1)) fun ((t5, t6) : Int32 × (Nat → Int32)) =>
  some (t5, t6)

def rmX4_timesOf : Room := { frames := 5, cells := 0, slots := 0, locals := 113 }
theorem mbX4_timesOf_f9 : Cond.fieldLink RX4 9 (TX4 0).1 (TX4 0).2.1 (TX4 0).2.2.1 ∈ wsX4_timesOf := by decide +kernel
theorem inX4_timesOf_X4 : ∀ w ∈ wsX40, w ∈ wsX4_timesOf := by decide +kernel
theorem mbX4_timesOf_f13 : Cond.fieldLink RX4 13 (TX4 1).1 (TX4 1).2.1 (TX4 1).2.2.1 ∈ wsX4_timesOf := by decide +kernel
theorem hdVX4_timesOf : yX4_timesOf.cls = RX4 ∧ yX4_timesOf.cls ≠ "java/lang/invoke/MethodHandle" ∧ yX4_timesOf.cls ≠ "java/lang/invoke/VarHandle" ∧ (parseMethodDescriptor yX4_timesOf.desc).map (fun d => d.parameters.length) = some 3 := by decide +kernel
set_option maxHeartbeats 4000000 in
set_option maxRecDepth 100000 in
theorem ctX4_timesOf {l : Launch} {D : va_G} {cI cJ cQ : ClassId} (ad : Nat → Nat) (xs : (Nat → Int32)) (xm : (Nat → Int32)) (xi : (Nat → Int32)) (xw : (Nat → Int32)) (xh : Int32) (xl : (Nat → Int32)) (xr : (Nat → Int32)) (xe : (Nat → Int32)) (xn : Int32) (xo : Int32) (xp : Int32) (xu : (Nat → Int32)) (xd : Int32) (v1 : Int32) (v2 : Int32) (v3 : Int32) {res : Int32 × (Nat → Int32)} (h : fX4_timesOf v1 v2 v3 xs xm = some res) : CtI l D cI cJ cQ yX4_timesOf wsX4_timesOf rmX4_timesOf [.ref (ad 0), .int v1, .int v2, .int v3] (wMd cI ad xs xm xi xw xh xl xr xe xn xo xp xu xd) res.1 (wMd cI ad xs res.2 xi xw xh xl xr xe xn xo xp xu xd) := by
  refine ctI_of .int (cc := cX4_timesOf) (maxL := 6) (by decide) rfl (Nat.le_of_ble_eq_true rfl) ?_
  intro p e s m args below meth c A Q ls F hK hA RET hH hl
  obtain ⟨hx, hb, hml, hown, hts⟩ := id F
  have hl : lv_has ls 6 [(0, .ref (ad 0)), (1, .int v1), (2, .int v2), (3, .int v3)] := hl
  have hf : wpO (fX4_timesOf v1 v2 v3 xs xm) (fun v => v = res) := ⟨_, h, rfl⟩
  obtain ⟨H, eH⟩ : ∃ H, H = s.heap := ⟨_, rfl⟩
  obtain ⟨locs, eL⟩ : ∃ locs : List Loc, locs = [] := ⟨_, rfl⟩
  have hH : Hs D A s.heap (wMd cI ad xs xm xi xw xh xl xr xe xn xo xp xu xd) H locs := by rw [eH, eL]; exact hH
  rw [← eL]
  suffices hgo : W p l e rmX4_timesOf s m args below meth c H locs 0 0 Q (F0 m 0 ls []) by rw [eH] at hgo; exact hgo
  clear eH eL
  refine lv_aload_n hx hb dX4_timesOf_0 rfl (lv_at hl 0 rfl) ?_
  refine k_get (v := .ref (ad 1)) F hK hH 0 inX4_timesOf_X4 0 mbX4_timesOf_f9 dX4_timesOf_1 rfl rfl (by decide) rfl ?_
  refine lv_aload_n hx hb dX4_timesOf_4 rfl (lv_at hl 0 rfl) ?_
  refine k_get (v := .ref (ad 2)) F hK hH 0 inX4_timesOf_X4 1 mbX4_timesOf_f13 dX4_timesOf_5 rfl rfl (by decide) rfl ?_
  obtain ⟨x1, hcl, hf⟩ := wp_b hf
  refine k_Sv F hK hH hA hl.1 ⟨Nat.zero_le _, Nat.zero_le _⟩ [1, 2] [.ref (ad 1), .ref (ad 2)] [] (ctX4_copies (ad 1) (ad 2) xs xm hcl) (va_cwS 2 hts gX4_timesOf_X4_copies rfl rfl rfl hdSX4_copies ⟨Nat.le_of_ble_eq_true rfl, Nat.le_of_ble_eq_true rfl⟩) dX4_timesOf_8 rfl rfl (Nat.le_of_ble_eq_true rfl) rfl rfl (by decide) (fun H locs hH => ?_)
  have hH : Hs D A s.heap (wMd cI ad xs x1 xi xw xh xl xr xe xn xo xp xu xd) H locs := hH
  refine lv_iconst (v := 0) hx hb dX4_timesOf_11 (by decide) ?_
  refine lv_istore (lv' := [(4, .int 0), (0, .ref (ad 0)), (1, .int v1), (2, .int v2), (3, .int v3)]) hx hb dX4_timesOf_12 hl (by decide) rfl (fun ls hl => ?_)
  refine lv_iconst (v := 0) hx hb dX4_timesOf_14 (by decide) ?_
  refine lv_istore (lv' := [(5, .int 0), (4, .int 0), (0, .ref (ad 0)), (1, .int v1), (2, .int v2), (3, .int v3)]) hx hb dX4_timesOf_15 hl (by decide) rfl (fun ls hl => ?_)
  have LP : ∀ (Φ : (Int32 × (Nat → Int32)) → Prop), (∀ (t5 : Int32) (t6 : (Nat → Int32)) (H : Heap) (locs : List Loc) (ls : Array Slot), Φ ((t5, t6)) → Hs D A s.heap (wMd cI ad xs t6 xi xw xh xl xr xe xn xo xp xu xd) H locs → lv_has ls 6 [(4, .int t5)] → W p l e rmX4_timesOf s m args below meth c H locs 0 0 Q (F0 m 58 ls [])) → ∀ (n : Nat) (t2 : Int32) (t3 : Int32) (t4 : (Nat → Int32)) (H : Heap) (locs : List Loc) (ls : Array Slot), wpO (lp (bX4_timesOf_17 v1 v2 v3) n (t2, t3, t4)) Φ → Hs D A s.heap (wMd cI ad xs t4 xi xw xh xl xr xe xn xo xp xu xd) H locs → lv_has ls 6 [(0, .ref (ad 0)), (1, .int v1), (2, .int v2), (3, .int v3), (4, .int t2), (5, .int t3)] → W p l e rmX4_timesOf s m args below meth c H locs 0 0 Q (F0 m 17 ls []) := by
    intro Φ EX n
    induction n with
    | zero =>
      intro t2 t3 t4 H locs ls hf hH hl
      exact (wp_l0 hf).elim
    | succ n ih =>
      intro t2 t3 t4 H locs ls hf hH hl
      have hf := wp_l hf
      refine lv_iload hx hb dX4_timesOf_17 (lv_at hl 5 rfl) ?_
      refine lv_iload_n hx hb dX4_timesOf_19 rfl (lv_at hl 3 rfl) ?_
      refine lv_icmp_gt (tgt := 58) hx hb dX4_timesOf_20 (by decide) (fun hc => ?_) (fun hc => ?_)
      · have hf := wp_t hc hf
        have hw := wp_out hf
        exact EX _ _ _ _ _ hw hH (lv_sub hl [4] rfl)
      · have hf := wp_f hc hf
        refine lv_iload hx hb dX4_timesOf_23 (lv_at hl 4 rfl) ?_
        refine lv_aload_n hx hb dX4_timesOf_25 rfl (lv_at hl 0 rfl) ?_
        refine k_get (v := .ref (ad 2)) F hK hH 0 inX4_timesOf_X4 1 mbX4_timesOf_f13 dX4_timesOf_26 rfl rfl (by decide) rfl ?_
        refine lv_iload_n hx hb dX4_timesOf_29 rfl (lv_at hl 1 rfl) ?_
        obtain ⟨x7, hcl, hf⟩ := wp_b hf
        refine k_Si F hK hH hA hl.1 ⟨Nat.zero_le _, Nat.zero_le _⟩ [2] [.ref (ad 2), .int v1] [.int t2] (ctX4_verdictIn (ad 2) t4 v1 hcl) (va_cwS 2 hts gX4_timesOf_X4_verdictIn rfl rfl rfl hdSX4_verdictIn ⟨Nat.le_of_ble_eq_true rfl, Nat.le_of_ble_eq_true rfl⟩) dX4_timesOf_30 rfl rfl (Nat.le_of_ble_eq_true rfl) rfl rfl (by decide) (fun H locs hH => ?_)
        have hH : Hs D A s.heap (wMd cI ad xs t4 xi xw xh xl xr xe xn xo xp xu xd) H locs := hH
        refine lv_iload_n hx hb dX4_timesOf_33 rfl (lv_at hl 2 rfl) ?_
        refine join_ (α := Int32) (fun Φ => ∀ (t8 : Int32) (H : Heap) (locs : List Loc) (ls : Array Slot), Φ t8 → Hs D A s.heap (wMd cI ad xs t4 xi xw xh xl xr xe xn xo xp xu xd) H locs → lv_has ls 6 [(0, .ref (ad 0)), (1, .int v1), (2, .int v2), (3, .int v3), (5, .int t3)] → W p l e rmX4_timesOf s m args below meth c H locs 0 0 Q (F0 m 42 ls [.int t8, .int t2])) (wp_bb hf) ?_ ?_
        · intro t8 H locs ls hf hH hl
          refine lv_iadd hx hb dX4_timesOf_42 ?_
          refine lv_istore (lv' := [(4, .int (t2 + t8)), (0, .ref (ad 0)), (1, .int v1), (2, .int v2), (3, .int v3), (5, .int t3)]) hx hb dX4_timesOf_43 hl (by decide) rfl (fun ls hl => ?_)
          refine lv_aload_n hx hb dX4_timesOf_45 rfl (lv_at hl 1 rfl) ?_
          refine k_get (v := .ref (ad 2)) F hK hH 0 inX4_timesOf_X4 1 mbX4_timesOf_f13 dX4_timesOf_46 rfl rfl (by decide) rfl ?_
          obtain ⟨x9, hcl, hf⟩ := wp_b hf
          refine k_Sv F hK hH hA hl.1 ⟨Nat.zero_le _, Nat.zero_le _⟩ [2] [.ref (ad 2)] [] (ctX4_hour (ad 2) t4 hcl) (va_cwS 1 hts gX4_timesOf_X4_hour rfl rfl rfl hdSX4_hour ⟨Nat.le_of_ble_eq_true rfl, Nat.le_of_ble_eq_true rfl⟩) dX4_timesOf_49 rfl rfl (Nat.le_of_ble_eq_true rfl) rfl rfl (by decide) (fun H locs hH => ?_)
          have hH : Hs D A s.heap (wMd cI ad xs x9 xi xw xh xl xr xe xn xo xp xu xd) H locs := hH
          refine lv_iinc (v := t3 + 1) (lv' := [(5, .int (t3 + 1)), (4, .int (t2 + t8)), (0, .ref (ad 0)), (1, .int v1), (2, .int v2), (3, .int v3)]) hx hb dX4_timesOf_52 hl (k := 5) rfl rfl (by decide) rfl (fun ls hl => ?_)
          refine lv_goto (tgt := 17) hx hb dX4_timesOf_55 (by decide) ?_
          have hw := wp_in hf
          exact ih _ _ _ _ _ _ hw hH (lv_sub hl [2, 3, 4, 5, 1, 0] rfl)
        · intro Φ JJ hf
          refine lv_icmp_ne (tgt := 41) hx hb dX4_timesOf_34 (by decide) (fun hc => ?_) (fun hc => ?_)
          · have hf := wp_f hc hf
            refine lv_iconst (v := 0) hx hb dX4_timesOf_41 (by decide) ?_
            have hw := wp_s hf
            exact JJ _ _ _ _ hw hH (lv_sub hl [0, 1, 2, 3, 5] rfl)
          · have hf := wp_t hc hf
            refine lv_iconst (v := 1) hx hb dX4_timesOf_37 (by decide) ?_
            refine lv_goto (tgt := 42) hx hb dX4_timesOf_38 (by decide) ?_
            have hw := wp_s hf
            exact JJ _ _ _ _ hw hH (lv_sub hl [0, 1, 2, 3, 5] rfl)
  refine LP _ (fun t5 t6 H locs ls hf hH hl => ?_) fu _ _ _ _ _ _ (wp_bb hf) hH (lv_sub hl [2, 3, 4, 5, 1, 0] rfl)
  refine lv_iload hx hb dX4_timesOf_58 (lv_at hl 0 rfl) ?_
  have hrs := wp_s hf
  subst hrs
  exact RET H locs ls 60 dX4_timesOf_60 rfl hH

