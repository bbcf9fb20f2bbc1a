def bX3_two_71 (v1 : Int32) (v2 : Int32) (v3 : Int32) (yn : LandT) (t6 : Int32) : (Int32 × LandT × (Nat → Int32) × (Nat → Int32)) → Option ((Int32 × LandT × (Nat → Int32) × (Nat → Int32)) ⊕ (LandT × (Nat → Int32) × (Nat → Int32))) := fun ((t13, t14, t15, t16) : Int32 × LandT × (Nat → Int32) × (Nat → Int32)) =>
  if (1 : Int32) < t13 then
    some (.inr (t14, t15, t16))
  else
    if t6 = 0 then
      Option.bind (fX3_gainBehind v3 v1 t6 v2 t13 yn t14) fun x20 =>
      if ob t13 2 then none else
      some (.inl (t13 + 1, x20.2, upd t15 (Int32.toNatClampNeg t13) x20.1, t16))
    else if t6 = 1 then
      Option.bind (fX3_gainBehind v3 v1 t6 v2 t13 yn t14) fun x21 =>
      if ob t13 2 then none else
      some (.inl (t13 + 1, x21.2, t15, upd t16 (Int32.toNatClampNeg t13) x21.1))
    else none

def bX3_two_62 (v1 : Int32) (v2 : Int32) (v3 : Int32) (yn : LandT) : (Int32 × LandT × (Nat → Int32) × (Nat → Int32)) → Option ((Int32 × LandT × (Nat → Int32) × (Nat → Int32)) ⊕ (LandT × (Nat → Int32) × (Nat → Int32))) := fun ((t6, t7, t8, t9) : Int32 × LandT × (Nat → Int32) × (Nat → Int32)) =>
  if (1 : Int32) < t6 then
    some (.inr (t7, t8, t9))
  else
    Option.bind (lp (bX3_two_71 v1 v2 v3 yn t6) fu (0, t7, t8, t9)) fun ((t17, t18, t19) : LandT × (Nat → Int32) × (Nat → Int32)) =>
    some (.inl (t6 + 1, t17, t18, t19))

def fX3_two (v1 : Int32) (v2 : Int32) (v3 : Int32) (yn : LandT) (ym : LandT) (ye : (Nat → Int32)) (y0 : (Nat → Int32)) (y1 : (Nat → Int32)) : Option (Int32 × LandT × (Nat → Int32) × (Nat → Int32) × (Nat → Int32)) :=
  Option.bind (fX0_hasThing v1 yn) fun x1 =>
  if x1 = 0 then
    Option.bind (fX3_refuse (-1) ye) fun x2 =>
    some (x2.1, ym, x2.2, y0, y1)
  else
    Option.bind (fX0_hasThing v2 yn) fun x3 =>
    if x3 = 0 then
      Option.bind (fX3_refuse (-1) ye) fun x4 =>
      some (x4.1, ym, x4.2, y0, y1)
    else
      if v1 = v2 then
        Option.bind (fX3_refuse (-1) ye) fun x25 =>
        some (x25.1, ym, x25.2, y0, y1)
      else
        Option.bind (fX3_isWithin v3 0 30) fun x5 =>
        if x5 = 0 then
          Option.bind (if (0 : Int32) ≤ v3 then
              some (-6)
            else
              some (-4)) fun (t23 : Int32) =>
          Option.bind (fX3_refuse t23 ye) fun x24 =>
          some (x24.1, ym, x24.2, y0, y1)
        else
          Option.bind (lp (bX3_two_62 v1 v2 v3 yn) fu (0, ym, y0, y1)) fun ((t10, t11, t12) : LandT × (Nat → Int32) × (Nat → Int32)) =>
          Option.bind (fX3_firstPairAtRest t11 t12) fun x22 =>
          some (x22, t10, ye, t11, t12)

def rmX3_two : Room := { frames := 6, cells := 0, slots := 0, locals := 138 }
theorem mbX3_two_f10 : Cond.fieldLink RX3 10 (TX3 0).1 (TX3 0).2.1 (TX3 0).2.2.1 ∈ wsX3_two := by decide +kernel
theorem inX3_two_X3 : ∀ w ∈ wsX30, w ∈ wsX3_two := by decide +kernel
theorem mbX3_two_f52 : Cond.fieldLink RX3 52 (TX3 9).1 (TX3 9).2.1 (TX3 9).2.2.1 ∈ wsX3_two := by decide +kernel
theorem hdVX3_two : yX3_two.cls = RX3 ∧ yX3_two.cls ≠ "java/lang/invoke/MethodHandle" ∧ yX3_two.cls ≠ "java/lang/invoke/VarHandle" ∧ (parseMethodDescriptor yX3_two.desc).map (fun d => d.parameters.length) = some 3 := by decide +kernel
set_option maxHeartbeats 4000000 in
set_option maxRecDepth 100000 in
theorem ctX3_two {l : Launch} {D : va_G} {cI cJ cQ : ClassId} (ad : Nat → Nat) (yn : LandT) (ym : LandT) (yk : LandT) (yl : (Nat → Int32)) (yt : Int32) (yd : Int32) (yu : (Nat → Int32)) (ye : (Nat → Int32)) (yv : (Nat → Int32)) (yo : (Nat → Int64)) (y0 : (Nat → Int32)) (y1 : (Nat → Int32)) (yc : Int32) (yh : Int32) (v1 : Int32) (v2 : Int32) (v3 : Int32) {res : Int32 × LandT × (Nat → Int32) × (Nat → Int32) × (Nat → Int32)} (h : fX3_two v1 v2 v3 yn ym ye y0 y1 = some res) : CtI l D cI cJ cQ yX3_two wsX3_two rmX3_two [.ref (ad 0), .int v1, .int v2, .int v3] (wMn cI cJ cQ ad yn ym yk yl yt yd yu ye yv yo y0 y1 yc yh) res.1 (wMn cI cJ cQ ad yn res.2.1 yk yl yt yd yu res.2.2.1 yv yo res.2.2.2.1 res.2.2.2.2 yc yh) := by
  refine ctI_of .int (cc := cX3_two) (maxL := 6) (by decide) rfl (Nat.le_of_ble_eq_true rfl) ?_
  intro p e s m args below meth c A Q ls F hK hA RET hH hl
  obtain ⟨hx, hb, hml, hown, hts⟩ := id F
  have hl : lv_has ls 6 [(0, .ref (ad 0)), (1, .int v1), (2, .int v2), (3, .int v3)] := hl
  have hf : wpO (fX3_two v1 v2 v3 yn ym ye y0 y1) (fun v => v = res) := ⟨_, h, rfl⟩
  obtain ⟨H, eH⟩ : ∃ H, H = s.heap := ⟨_, rfl⟩
  obtain ⟨locs, eL⟩ : ∃ locs : List Loc, locs = [] := ⟨_, rfl⟩
  have hH : Hs D A s.heap (wMn cI cJ cQ ad yn ym yk yl yt yd yu ye yv yo y0 y1 yc yh) H locs := by rw [eH, eL]; exact hH
  rw [← eL]
  suffices hgo : W p l e rmX3_two s m args below meth c H locs 0 0 Q (F0 m 0 ls []) by rw [eH] at hgo; exact hgo
  clear eH eL
  refine lv_aload_n hx hb dX3_two_0 rfl (lv_at hl 0 rfl) ?_
  refine k_get (v := .ref (ad 1)) F hK hH 0 inX3_two_X3 0 mbX3_two_f10 dX3_two_1 rfl rfl (by decide) rfl ?_
  refine lv_iload_n hx hb dX3_two_4 rfl (lv_at hl 1 rfl) ?_
  obtain ⟨x1, hcl, hf⟩ := wp_b hf
  refine k_Vi F hK hH hA hl.1 ⟨Nat.zero_le _, Nat.zero_le _⟩ [1, 2, 3, 4, 5, 6, 7, 8] [.int v1] [] (ctX0_hasThing (fun k => ad (1 + k)) yn v1 hcl) (cwV 1 hts gX3_two_X0_hasThing rfl rfl rfl hdVX0_hasThing ⟨Nat.le_of_ble_eq_true rfl, Nat.le_of_ble_eq_true rfl⟩) dX3_two_5 1 rfl rfl rfl rfl rfl (Nat.le_of_ble_eq_true rfl) rfl rfl (by decide) (fun H locs hH => ?_)
  have hH : Hs D A s.heap (wMn cI cJ cQ ad yn ym yk yl yt yd yu ye yv yo y0 y1 yc yh) H locs := hH
  refine lv_if_eq (tgt := 27) hx hb dX3_two_8 (by decide) (fun hc => ?_) (fun hc => ?_)
  · have hf := wp_t hc hf
    refine lv_aload_n hx hb dX3_two_27 rfl (lv_at hl 0 rfl) ?_
    refine lv_iconst (v := (-1)) hx hb dX3_two_28 (by decide) ?_
    obtain ⟨x2, hcl, hf⟩ := wp_b hf
    refine k_Vi0 F hK hH hA hl.1 ⟨Nat.zero_le _, Nat.zero_le _⟩ [.int (-1)] [] (ctX3_refuse ad yn ym yk yl yt yd yu ye yv yo y0 y1 yc yh (-1) hcl) (cwV 1 hts gX3_two_X3_refuse rfl rfl rfl hdVX3_refuse ⟨Nat.le_of_ble_eq_true rfl, Nat.le_of_ble_eq_true rfl⟩) dX3_two_29 0 rfl rfl rfl rfl rfl (Nat.le_of_ble_eq_true rfl) rfl (fun H locs hH => ?_)
    have hH : Hs D A s.heap (wMn cI cJ cQ ad yn ym yk yl yt yd yu x2.2 yv yo y0 y1 yc yh) H locs := hH
    refine W.eq (g2 := F0 m 32 ls [.int x2.1]) rfl ?_
    have hrs := wp_s hf
    subst hrs
    exact RET H locs ls 32 dX3_two_32 rfl hH
  · have hf := wp_f hc hf
    refine lv_aload_n hx hb dX3_two_11 rfl (lv_at hl 0 rfl) ?_
    refine k_get (v := .ref (ad 1)) F hK hH 0 inX3_two_X3 0 mbX3_two_f10 dX3_two_12 rfl rfl (by decide) rfl ?_
    refine lv_iload_n hx hb dX3_two_15 rfl (lv_at hl 2 rfl) ?_
    obtain ⟨x3, hcl, hf⟩ := wp_b hf
    refine k_Vi F hK hH hA hl.1 ⟨Nat.zero_le _, Nat.zero_le _⟩ [1, 2, 3, 4, 5, 6, 7, 8] [.int v2] [] (ctX0_hasThing (fun k => ad (1 + k)) yn v2 hcl) (cwV 1 hts gX3_two_X0_hasThing rfl rfl rfl hdVX0_hasThing ⟨Nat.le_of_ble_eq_true rfl, Nat.le_of_ble_eq_true rfl⟩) dX3_two_16 1 rfl rfl rfl rfl rfl (Nat.le_of_ble_eq_true rfl) rfl rfl (by decide) (fun H locs hH => ?_)
    have hH : Hs D A s.heap (wMn cI cJ cQ ad yn ym yk yl yt yd yu ye yv yo y0 y1 yc yh) H locs := hH
    refine lv_if_eq (tgt := 27) hx hb dX3_two_19 (by decide) (fun hc => ?_) (fun hc => ?_)
    · have hf := wp_t hc hf
      refine lv_aload_n hx hb dX3_two_27 rfl (lv_at hl 0 rfl) ?_
      refine lv_iconst (v := (-1)) hx hb dX3_two_28 (by decide) ?_
      obtain ⟨x4, hcl, hf⟩ := wp_b hf
      refine k_Vi0 F hK hH hA hl.1 ⟨Nat.zero_le _, Nat.zero_le _⟩ [.int (-1)] [] (ctX3_refuse ad yn ym yk yl yt yd yu ye yv yo y0 y1 yc yh (-1) hcl) (cwV 1 hts gX3_two_X3_refuse rfl rfl rfl hdVX3_refuse ⟨Nat.le_of_ble_eq_true rfl, Nat.le_of_ble_eq_true rfl⟩) dX3_two_29 0 rfl rfl rfl rfl rfl (Nat.le_of_ble_eq_true rfl) rfl (fun H locs hH => ?_)
      have hH : Hs D A s.heap (wMn cI cJ cQ ad yn ym yk yl yt yd yu x4.2 yv yo y0 y1 yc yh) H locs := hH
      refine W.eq (g2 := F0 m 32 ls [.int x4.1]) rfl ?_
      have hrs := wp_s hf
      subst hrs
      exact RET H locs ls 32 dX3_two_32 rfl hH
    · have hf := wp_f hc hf
      refine lv_iload_n hx hb dX3_two_22 rfl (lv_at hl 1 rfl) ?_
      refine lv_iload_n hx hb dX3_two_23 rfl (lv_at hl 2 rfl) ?_
      refine lv_icmp_ne (tgt := 33) hx hb dX3_two_24 (by decide) (fun hc => ?_) (fun hc => ?_)
      · have hf := wp_f hc hf
        refine lv_iload_n hx hb dX3_two_33 rfl (lv_at hl 3 rfl) ?_
        refine lv_iconst (v := 0) hx hb dX3_two_34 (by decide) ?_
        refine lv_bipush (v := 30) hx hb dX3_two_35 (by decide) ?_
        obtain ⟨x5, hcl, hf⟩ := wp_b hf
        refine k_Si F hK hH hA hl.1 ⟨Nat.zero_le _, Nat.zero_le _⟩ [] [.int v3, .int 0, .int 30] [] (ctX3_isWithin v3 0 30 hcl) (va_cwS 3 hts gX3_two_X3_isWithin rfl rfl rfl hdSX3_isWithin ⟨Nat.le_of_ble_eq_true rfl, Nat.le_of_ble_eq_true rfl⟩) dX3_two_37 rfl rfl (Nat.le_of_ble_eq_true rfl) rfl rfl (by decide) (fun H locs hH => ?_)
        have hH : Hs D A s.heap (wMn cI cJ cQ ad yn ym yk yl yt yd yu ye yv yo y0 y1 yc yh) H locs := hH
        refine lv_if_ne (tgt := 59) hx hb dX3_two_40 (by decide) (fun hc => ?_) (fun hc => ?_)
        · have hf := wp_f hc hf
          refine lv_iconst (v := 0) hx hb dX3_two_59 (by decide) ?_
          refine lv_istore (lv' := [(4, .int 0), (0, .ref (ad 0)), (1, .int v1), (2, .int v2), (3, .int v3)]) hx hb dX3_two_60 hl (by decide) rfl (fun ls hl => ?_)
          have LP : ∀ (Φ : (LandT × (Nat → Int32) × (Nat → Int32)) → Prop), (∀ (t10 : LandT) (t11 : (Nat → Int32)) (t12 : (Nat → Int32)) (H : Heap) (locs : List Loc) (ls : Array Slot), Φ ((t10, t11, t12)) → Hs D A s.heap (wMn cI cJ cQ ad yn t10 yk yl yt yd yu ye yv yo t11 t12 yc yh) H locs → lv_has ls 6 [(0, .ref (ad 0))] → W p l e rmX3_two s m args below meth c H locs 0 0 Q (F0 m 110 ls [])) → ∀ (n : Nat) (t6 : Int32) (t7 : LandT) (t8 : (Nat → Int32)) (t9 : (Nat → Int32)) (H : Heap) (locs : List Loc) (ls : Array Slot), wpO (lp (bX3_two_62 v1 v2 v3 yn) n (t6, t7, t8, t9)) Φ → Hs D A s.heap (wMn cI cJ cQ ad yn t7 yk yl yt yd yu ye yv yo t8 t9 yc yh) H locs → lv_has ls 6 [(0, .ref (ad 0)), (1, .int v1), (2, .int v2), (3, .int v3), (4, .int t6)] → W p l e rmX3_two s m args below meth c H locs 0 0 Q (F0 m 62 ls []) := by
            intro Φ EX n
            induction n with
            | zero =>
              intro t6 t7 t8 t9 H locs ls hf hH hl
              exact (wp_l0 hf).elim
            | succ n ih =>
              intro t6 t7 t8 t9 H locs ls hf hH hl
              have hf := wp_l hf
              refine lv_iload hx hb dX3_two_62 (lv_at hl 4 rfl) ?_
              refine lv_iconst (v := 1) hx hb dX3_two_64 (by decide) ?_
              refine lv_icmp_gt (tgt := 110) hx hb dX3_two_65 (by decide) (fun hc => ?_) (fun hc => ?_)
              · have hf := wp_t hc hf
                have hw := wp_out hf
                exact EX _ _ _ _ _ _ hw hH (lv_sub hl [0] rfl)
              · have hf := wp_f hc hf
                refine lv_iconst (v := 0) hx hb dX3_two_68 (by decide) ?_
                refine lv_istore (lv' := [(5, .int 0), (0, .ref (ad 0)), (1, .int v1), (2, .int v2), (3, .int v3), (4, .int t6)]) hx hb dX3_two_69 hl (by decide) rfl (fun ls hl => ?_)
                have LP : ∀ (Φ : (LandT × (Nat → Int32) × (Nat → Int32)) → Prop), (∀ (t17 : LandT) (t18 : (Nat → Int32)) (t19 : (Nat → Int32)) (H : Heap) (locs : List Loc) (ls : Array Slot), Φ ((t17, t18, t19)) → Hs D A s.heap (wMn cI cJ cQ ad yn t17 yk yl yt yd yu ye yv yo t18 t19 yc yh) H locs → lv_has ls 6 [(0, .ref (ad 0)), (1, .int v1), (2, .int v2), (3, .int v3), (4, .int t6)] → W p l e rmX3_two s m args below meth c H locs 0 0 Q (F0 m 104 ls [])) → ∀ (n : Nat) (t13 : Int32) (t14 : LandT) (t15 : (Nat → Int32)) (t16 : (Nat → Int32)) (H : Heap) (locs : List Loc) (ls : Array Slot), wpO (lp (bX3_two_71 v1 v2 v3 yn t6) n (t13, t14, t15, t16)) Φ → Hs D A s.heap (wMn cI cJ cQ ad yn t14 yk yl yt yd yu ye yv yo t15 t16 yc yh) H locs → lv_has ls 6 [(0, .ref (ad 0)), (1, .int v1), (2, .int v2), (3, .int v3), (4, .int t6), (5, .int t13)] → W p l e rmX3_two s m args below meth c H locs 0 0 Q (F0 m 71 ls []) := by
                  intro Φ EX n
                  induction n with
                  | zero =>
                    intro t13 t14 t15 t16 H locs ls hf hH hl
                    exact (wp_l0 hf).elim
                  | succ n ih =>
                    intro t13 t14 t15 t16 H locs ls hf hH hl
                    have hf := wp_l hf
                    refine lv_iload hx hb dX3_two_71 (lv_at hl 5 rfl) ?_
                    refine lv_iconst (v := 1) hx hb dX3_two_73 (by decide) ?_
                    refine lv_icmp_gt (tgt := 104) hx hb dX3_two_74 (by decide) (fun hc => ?_) (fun hc => ?_)
                    · have hf := wp_t hc hf
                      have hw := wp_out hf
                      exact EX _ _ _ _ _ _ hw hH (lv_sub hl [0, 1, 2, 3, 4] rfl)
                    · have hf := wp_f hc hf
                      refine lv_aload_n hx hb dX3_two_77 rfl (lv_at hl 0 rfl) ?_
                      refine k_get (v := .ref (ad 32)) F hK hH 0 inX3_two_X3 9 mbX3_two_f52 dX3_two_78 rfl rfl (by decide) rfl ?_
                      refine lv_iload hx hb dX3_two_81 (lv_at hl 4 rfl) ?_
                      by_cases hq0 : t6 = 0
                      · have hf := wp_t hq0 hf
                        refine k_aald (f := (fun i => if i = 0 then some (ad 33) else some (ad 34))) (n := 2) F hK hH 32 dX3_two_83 (by rw [hq0]; decide) rfl ?_
                        rw [hq0]
                        refine W.eq (g2 := F0 m 84 ls [.ref (ad 33)]) rfl ?_
                        skip
                        refine lv_iload hx hb dX3_two_84 (lv_at hl 5 rfl) ?_
                        refine lv_aload_n hx hb dX3_two_86 rfl (lv_at hl 0 rfl) ?_
                        refine lv_iload_n hx hb dX3_two_87 rfl (lv_at hl 3 rfl) ?_
                        refine lv_iload_n hx hb dX3_two_88 rfl (lv_at hl 1 rfl) ?_
                        refine lv_iload hx hb dX3_two_89 (lv_at hl 4 rfl) ?_
                        refine lv_iload_n hx hb dX3_two_91 rfl (lv_at hl 2 rfl) ?_
                        refine lv_iload hx hb dX3_two_92 (lv_at hl 5 rfl) ?_
                        obtain ⟨x20, hcl, hf⟩ := wp_b hf
                        refine k_Vi0 F hK hH hA hl.1 ⟨Nat.zero_le _, Nat.zero_le _⟩ [.int v3, .int v1, .int t6, .int v2, .int t13] [.int t13, .ref (ad 33)] (ctX3_gainBehind ad yn t14 yk yl yt yd yu ye yv yo t15 t16 yc yh v3 v1 t6 v2 t13 hcl) (cwV 5 hts gX3_two_X3_gainBehind rfl rfl rfl hdVX3_gainBehind ⟨Nat.le_of_ble_eq_true rfl, Nat.le_of_ble_eq_true rfl⟩) dX3_two_94 0 rfl rfl rfl rfl rfl (Nat.le_of_ble_eq_true rfl) rfl (fun H locs hH => ?_)
                        have hH : Hs D A s.heap (wMn cI cJ cQ ad yn x20.2 yk yl yt yd yu ye yv yo t15 t16 yc yh) H locs := hH
                        refine W.eq (g2 := F0 m 97 ls [.int x20.1, .int t13, .ref (ad 33)]) rfl ?_
                        obtain ⟨hi, hf⟩ := wp_n hf
                        refine k_iast (f := t15) (n := 2) F hK hH 33 dX3_two_97 hi rfl (fun H locs hH => ?_)
                        have hH : Hs D A s.heap (wMn cI cJ cQ ad yn x20.2 yk yl yt yd yu ye yv yo (upd t15 (Int32.toNatClampNeg t13) x20.1) t16 yc yh) H locs := hH
                        refine lv_iinc (v := t13 + 1) (lv' := [(5, .int (t13 + 1)), (0, .ref (ad 0)), (1, .int v1), (2, .int v2), (3, .int v3), (4, .int t6)]) hx hb dX3_two_98 hl (k := 5) rfl rfl (by decide) rfl (fun ls hl => ?_)
                        refine lv_goto (tgt := 71) hx hb dX3_two_101 (by decide) ?_
                        have hw := wp_in hf
                        exact ih _ _ _ _ _ _ _ hw hH (lv_sub hl [1, 2, 3, 4, 5, 0] rfl)
                      · have hf := wp_f hq0 hf
                        by_cases hq1 : t6 = 1
                        · have hf := wp_t hq1 hf
                          refine k_aald (f := (fun i => if i = 0 then some (ad 33) else some (ad 34))) (n := 2) F hK hH 32 dX3_two_83 (by rw [hq1]; decide) rfl ?_
                          rw [hq1]
                          refine W.eq (g2 := F0 m 84 ls [.ref (ad 34)]) rfl ?_
                          refine lv_iload hx hb dX3_two_84 (lv_at hl 5 rfl) ?_
                          refine lv_aload_n hx hb dX3_two_86 rfl (lv_at hl 0 rfl) ?_
                          refine lv_iload_n hx hb dX3_two_87 rfl (lv_at hl 3 rfl) ?_
                          refine lv_iload_n hx hb dX3_two_88 rfl (lv_at hl 1 rfl) ?_
                          refine lv_iload hx hb dX3_two_89 (lv_at hl 4 rfl) ?_
                          refine lv_iload_n hx hb dX3_two_91 rfl (lv_at hl 2 rfl) ?_
                          refine lv_iload hx hb dX3_two_92 (lv_at hl 5 rfl) ?_
                          obtain ⟨x21, hcl, hf⟩ := wp_b hf
                          refine k_Vi0 F hK hH hA hl.1 ⟨Nat.zero_le _, Nat.zero_le _⟩ [.int v3, .int v1, .int t6, .int v2, .int t13] [.int t13, .ref (ad 34)] (ctX3_gainBehind ad yn t14 yk yl yt yd yu ye yv yo t15 t16 yc yh v3 v1 t6 v2 t13 hcl) (cwV 5 hts gX3_two_X3_gainBehind rfl rfl rfl hdVX3_gainBehind ⟨Nat.le_of_ble_eq_true rfl, Nat.le_of_ble_eq_true rfl⟩) dX3_two_94 0 rfl rfl rfl rfl rfl (Nat.le_of_ble_eq_true rfl) rfl (fun H locs hH => ?_)
                          have hH : Hs D A s.heap (wMn cI cJ cQ ad yn x21.2 yk yl yt yd yu ye yv yo t15 t16 yc yh) H locs := hH
                          refine W.eq (g2 := F0 m 97 ls [.int x21.1, .int t13, .ref (ad 34)]) rfl ?_
                          obtain ⟨hi, hf⟩ := wp_n hf
                          refine k_iast (f := t16) (n := 2) F hK hH 34 dX3_two_97 hi rfl (fun H locs hH => ?_)
                          have hH : Hs D A s.heap (wMn cI cJ cQ ad yn x21.2 yk yl yt yd yu ye yv yo t15 (upd t16 (Int32.toNatClampNeg t13) x21.1) yc yh) H locs := hH
                          refine lv_iinc (v := t13 + 1) (lv' := [(5, .int (t13 + 1)), (0, .ref (ad 0)), (1, .int v1), (2, .int v2), (3, .int v3), (4, .int t6)]) hx hb dX3_two_98 hl (k := 5) rfl rfl (by decide) rfl (fun ls hl => ?_)
                          refine lv_goto (tgt := 71) hx hb dX3_two_101 (by decide) ?_
                          have hw := wp_in hf
                          exact ih _ _ _ _ _ _ _ hw hH (lv_sub hl [1, 2, 3, 4, 5, 0] rfl)
                        · exact (wp_0 (wp_f hq1 hf)).elim
                refine LP _ (fun t17 t18 t19 H locs ls hf hH hl => ?_) fu _ _ _ _ _ _ _ (wp_bb hf) hH (lv_sub hl [1, 2, 3, 4, 5, 0] rfl)
                refine lv_iinc (v := t6 + 1) (lv' := [(4, .int (t6 + 1)), (0, .ref (ad 0)), (1, .int v1), (2, .int v2), (3, .int v3)]) hx hb dX3_two_104 hl (k := 4) rfl rfl (by decide) rfl (fun ls hl => ?_)
                refine lv_goto (tgt := 62) hx hb dX3_two_107 (by decide) ?_
                have hw := wp_in hf
                exact ih _ _ _ _ _ _ _ hw hH (lv_sub hl [1, 2, 3, 4, 0] rfl)
          refine LP _ (fun t10 t11 t12 H locs ls hf hH hl => ?_) fu _ _ _ _ _ _ _ (wp_bb hf) hH (lv_sub hl [1, 2, 3, 4, 0] rfl)
          refine lv_aload_n hx hb dX3_two_110 rfl (lv_at hl 0 rfl) ?_
          obtain ⟨x22, hcl, hf⟩ := wp_b hf
          refine k_Vi0 F hK hH hA hl.1 ⟨Nat.zero_le _, Nat.zero_le _⟩ [] [] (ctX3_firstPairAtRest ad yn t10 yk yl yt yd yu ye yv yo t11 t12 yc yh hcl) (cwV 0 hts gX3_two_X3_firstPairAtRest rfl rfl rfl hdVX3_firstPairAtRest ⟨Nat.le_of_ble_eq_true rfl, Nat.le_of_ble_eq_true rfl⟩) dX3_two_111 0 rfl rfl rfl rfl rfl (Nat.le_of_ble_eq_true rfl) rfl (fun H locs hH => ?_)
          have hH : Hs D A s.heap (wMn cI cJ cQ ad yn t10 yk yl yt yd yu ye yv yo t11 t12 yc yh) H locs := hH
          have hrs := wp_s hf
          subst hrs
          exact RET H locs ls 114 dX3_two_114 rfl hH
        · have hf := wp_t hc hf
          refine lv_aload_n hx hb dX3_two_43 rfl (lv_at hl 0 rfl) ?_
          refine lv_iload_n hx hb dX3_two_44 rfl (lv_at hl 3 rfl) ?_
          refine join_ (α := Int32) (fun Φ => ∀ (t23 : Int32) (H : Heap) (locs : List Loc) (ls : Array Slot), Φ t23 → Hs D A s.heap (wMn cI cJ cQ ad yn ym yk yl yt yd yu ye yv yo y0 y1 yc yh) H locs → lv_has ls 6 [] → W p l e rmX3_two s m args below meth c H locs 0 0 Q (F0 m 55 ls [.int t23, .ref (ad 0)])) (wp_bb hf) ?_ ?_
          · intro t23 H locs ls hf hH hl
            obtain ⟨x24, hcl, hf⟩ := wp_b hf
            refine k_Vi0 F hK hH hA hl.1 ⟨Nat.zero_le _, Nat.zero_le _⟩ [.int t23] [] (ctX3_refuse ad yn ym yk yl yt yd yu ye yv yo y0 y1 yc yh t23 hcl) (cwV 1 hts gX3_two_X3_refuse rfl rfl rfl hdVX3_refuse ⟨Nat.le_of_ble_eq_true rfl, Nat.le_of_ble_eq_true rfl⟩) dX3_two_55 0 rfl rfl rfl rfl rfl (Nat.le_of_ble_eq_true rfl) rfl (fun H locs hH => ?_)
            have hH : Hs D A s.heap (wMn cI cJ cQ ad yn ym yk yl yt yd yu x24.2 yv yo y0 y1 yc yh) H locs := hH
            refine W.eq (g2 := F0 m 58 ls [.int x24.1]) rfl ?_
            have hrs := wp_s hf
            subst hrs
            exact RET H locs ls 58 dX3_two_58 rfl hH
          · intro Φ JJ hf
            refine lv_if_ge (tgt := 53) hx hb dX3_two_45 (by decide) (fun hc => ?_) (fun hc => ?_)
            · have hf := wp_t hc hf
              refine lv_bipush (v := (-6)) hx hb dX3_two_53 (by decide) ?_
              have hw := wp_s hf
              exact JJ _ _ _ _ hw hH (lv_sub hl [] rfl)
            · have hf := wp_f hc hf
              refine lv_bipush (v := (-4)) hx hb dX3_two_48 (by decide) ?_
              refine lv_goto (tgt := 55) hx hb dX3_two_50 (by decide) ?_
              have hw := wp_s hf
              exact JJ _ _ _ _ hw hH (lv_sub hl [] rfl)
      · have hf := wp_t hc hf
        refine lv_aload_n hx hb dX3_two_27 rfl (lv_at hl 0 rfl) ?_
        refine lv_iconst (v := (-1)) hx hb dX3_two_28 (by decide) ?_
        obtain ⟨x25, hcl, hf⟩ := wp_b hf
        refine k_Vi0 F hK hH hA hl.1 ⟨Nat.zero_le _, Nat.zero_le _⟩ [.int (-1)] [] (ctX3_refuse ad yn ym yk yl yt yd yu ye yv yo y0 y1 yc yh (-1) hcl) (cwV 1 hts gX3_two_X3_refuse rfl rfl rfl hdVX3_refuse ⟨Nat.le_of_ble_eq_true rfl, Nat.le_of_ble_eq_true rfl⟩) dX3_two_29 0 rfl rfl rfl rfl rfl (Nat.le_of_ble_eq_true rfl) rfl (fun H locs hH => ?_)
        have hH : Hs D A s.heap (wMn cI cJ cQ ad yn ym yk yl yt yd yu x25.2 yv yo y0 y1 yc yh) H locs := hH
        refine W.eq (g2 := F0 m 32 ls [.int x25.1]) rfl ?_
        have hrs := wp_s hf
        subst hrs
        exact RET H locs ls 32 dX3_two_32 rfl hH

def fX3_refuseLong (v1 : Int32) (ye : (Nat → Int32)) : Option (Int64 × (Nat → Int32)) :=
  Option.bind (fX3_refuse v1 ye) fun x1 =>
  some (4000000000000000000 - (Int32.toInt64 x1.1), x1.2)

def rmX3_refuseLong : Room := { frames := 1, cells := 0, slots := 0, locals := 21 }
theorem mbX3_refuseLong_c289 : Cond.constantLong RX3 289 4000000000000000000 ∈ wsX3_refuseLong := by decide +kernel
theorem hdVX3_refuseLong : yX3_refuseLong.cls = RX3 ∧ yX3_refuseLong.cls ≠ "java/lang/invoke/MethodHandle" ∧ yX3_refuseLong.cls ≠ "java/lang/invoke/VarHandle" ∧ (parseMethodDescriptor yX3_refuseLong.desc).map (fun d => d.parameters.length) = some 1 := by decide +kernel
set_option maxHeartbeats 4000000 in
set_option maxRecDepth 100000 in
theorem ctX3_refuseLong {l : Launch} {D : va_G} {cI cJ cQ : ClassId} (ad : Nat → Nat) (yn : LandT) (ym : LandT) (yk : LandT) (yl : (Nat → Int32)) (yt : Int32) (yd : Int32) (yu : (Nat → Int32)) (ye : (Nat → Int32)) (yv : (Nat → Int32)) (yo : (Nat → Int64)) (y0 : (Nat → Int32)) (y1 : (Nat → Int32)) (yc : Int32) (yh : Int32) (v1 : Int32) {res : Int64 × (Nat → Int32)} (h : fX3_refuseLong v1 ye = some res) : CtL l D cI cJ cQ yX3_refuseLong wsX3_refuseLong rmX3_refuseLong [.ref (ad 0), .int v1] (wMn cI cJ cQ ad yn ym yk yl yt yd yu ye yv yo y0 y1 yc yh) res.1 (wMn cI cJ cQ ad yn ym yk yl yt yd yu res.2 yv yo y0 y1 yc yh) := by
  refine ctL_of (cc := cX3_refuseLong) (maxL := 2) (by decide) rfl (Nat.le_of_ble_eq_true rfl) ?_
  intro p e s m args below meth c A Q ls F hK hA RET hH hl
  obtain ⟨hx, hb, hml, hown, hts⟩ := id F
  have hl : lv_has ls 2 [(0, .ref (ad 0)), (1, .int v1)] := hl
  have hf : wpO (fX3_refuseLong v1 ye) (fun v => v = res) := ⟨_, h, rfl⟩
  obtain ⟨H, eH⟩ : ∃ H, H = s.heap := ⟨_, rfl⟩
  obtain ⟨locs, eL⟩ : ∃ locs : List Loc, locs = [] := ⟨_, rfl⟩
  have hH : Hs D A s.heap (wMn cI cJ cQ ad yn ym yk yl yt yd yu ye yv yo y0 y1 yc yh) H locs := by rw [eH, eL]; exact hH
  rw [← eL]
  suffices hgo : W p l e rmX3_refuseLong s m args below meth c H locs 0 0 Q (F0 m 0 ls []) by rw [eH] at hgo; exact hgo
  clear eH eL
  refine lv_ldc2 (v := 4000000000000000000) hx hb hown (hts _ mbX3_refuseLong_c289) dX3_refuseLong_0 ?_
  refine lv_aload_n hx hb dX3_refuseLong_3 rfl (lv_at hl 0 rfl) ?_
  refine lv_iload_n hx hb dX3_refuseLong_4 rfl (lv_at hl 1 rfl) ?_
  obtain ⟨x1, hcl, hf⟩ := wp_b hf
  refine k_Vi0 F hK hH hA hl.1 ⟨Nat.zero_le _, Nat.zero_le _⟩ [.int v1] [.long 4000000000000000000] (ctX3_refuse ad yn ym yk yl yt yd yu ye yv yo y0 y1 yc yh v1 hcl) (cwV 1 hts gX3_refuseLong_X3_refuse rfl rfl rfl hdVX3_refuse ⟨Nat.le_of_ble_eq_true rfl, Nat.le_of_ble_eq_true rfl⟩) dX3_refuseLong_5 0 rfl rfl rfl rfl rfl (Nat.le_of_ble_eq_true rfl) rfl (fun H locs hH => ?_)
  have hH : Hs D A s.heap (wMn cI cJ cQ ad yn ym yk yl yt yd yu x1.2 yv yo y0 y1 yc yh) H locs := hH
  refine W.eq (g2 := F0 m 8 ls [.int x1.1, .long 4000000000000000000]) rfl ?_
  refine lv_i2l (v := Int32.toInt64 x1.1) hx hb dX3_refuseLong_8 rfl ?_
  refine lv_lsub hx hb dX3_refuseLong_9 ?_
  have hrs := wp_s hf
  subst hrs
  exact RET H locs ls 10 dX3_refuseLong_10 hH

def bX3_weighMists_2  : (Int32 × (Nat → Int64)) → Option ((Int32 × (Nat → Int64)) ⊕ ((Nat → Int64))) := fun ((t1, t2) : Int32 × (Nat → Int64)) =>
  if (7 : Int32) < t1 then
    some (.inr t2)
  else
    if t1 = 0 then
      if ob t1 8 then none else
      some (.inl (t1 + 1, vp_updL t2 (Int32.toNatClampNeg t1) 1))
    else
      if ob t1 8 then none else
      some (.inl (t1 + 1, vp_updL t2 (Int32.toNatClampNeg t1) 0))

def bX3_weighMists_44 (v2 : Int32) : (Int32 × (Nat → Int64)) → Option ((Int32 × (Nat → Int64)) ⊕ ((Nat → Int64))) := fun ((t9, t10) : Int32 × (Nat → Int64)) =>
  if t9 ≤ 0 then
    some (.inr t10)
  else
    if ob t9 8 then none else
    if ob (t9 - 1) 8 then none else
    if ob t9 8 then none else
    some (.inl (t9 + (-1), vp_updL t10 (Int32.toNatClampNeg t9) (((t10 (Int32.toNatClampNeg t9)) * (Int32.toInt64 (v2 - 1))) + (t10 (Int32.toNatClampNeg (t9 - 1))))))

def bX3_weighMists_34 (v1 : Int32) (v2 : Int32) : (Int64 × Int32 × (Nat → Int64)) → Option ((Int64 × Int32 × (Nat → Int64)) ⊕ (Int64 × (Nat → Int64))) := fun ((t4, t5, t6) : Int64 × Int32 × (Nat → Int64)) =>
  if v1 ≤ t5 then
    some (.inr (t4, t6))
  else
    Option.bind (lp (bX3_weighMists_44 v2) fu (7, t6)) fun (t11 : (Nat → Int64)) =>
    some (.inl (t4 * (Int32.toInt64 v2), t5 + 1, vp_updL t11 (Int32.toNatClampNeg 0) ((t11 (Int32.toNatClampNeg 0)) * (Int32.toInt64 (v2 - 1)))))

def fX3_weighMists (v1 : Int32) (v2 : Int32) (yo : (Nat → Int64)) : Option (Int64 × (Nat → Int64)) :=
  Option.bind (lp bX3_weighMists_2 fu (0, yo)) fun (t3 : (Nat → Int64)) =>
  Option.bind (lp (bX3_weighMists_34 v1 v2) fu (1, 0, t3)) fun ((t7, t8) : Int64 × (Nat → Int64)) =>
  some (t7, t8)

def rmX3_weighMists : Room := { frames := 0, cells := 0, slots := 0, locals := 0 }
theorem mbX3_weighMists_f46 : Cond.fieldLink RX3 46 (TX3 8).1 (TX3 8).2.1 (TX3 8).2.2.1 ∈ wsX3_weighMists := by decide +kernel
theorem inX3_weighMists_X3 : ∀ w ∈ wsX30, w ∈ wsX3_weighMists := by decide +kernel
theorem hdVX3_weighMists : yX3_weighMists.cls = RX3 ∧ yX3_weighMists.cls ≠ "java/lang/invoke/MethodHandle" ∧ yX3_weighMists.cls ≠ "java/lang/invoke/VarHandle" ∧ (parseMethodDescriptor yX3_weighMists.desc).map (fun d => d.parameters.length) = some 2 := by decide +kernel
set_option maxHeartbeats 4000000 in
set_option maxRecDepth 100000 in
theorem ctX3_weighMists {l : Launch} {D : va_G} {cI cJ cQ : ClassId} (ad : Nat → Nat) (yn : LandT) (ym : LandT) (yk : LandT) (yl : (Nat → Int32)) (yt : Int32) (yd : Int32) (yu : (Nat → Int32)) (ye : (Nat → Int32)) (yv : (Nat → Int32)) (yo : (Nat → Int64)) (y0 : (Nat → Int32)) (y1 : (Nat → Int32)) (yc : Int32) (yh : Int32) (v1 : Int32) (v2 : Int32) {res : Int64 × (Nat → Int64)} (h : fX3_weighMists v1 v2 yo = some res) : CtL l D cI cJ cQ yX3_weighMists wsX3_weighMists rmX3_weighMists [.ref (ad 0), .int v1, .int v2] (wMn cI cJ cQ ad yn ym yk yl yt yd yu ye yv yo y0 y1 yc yh) res.1 (wMn cI cJ cQ ad yn ym yk yl yt yd yu ye yv res.2 y0 y1 yc yh) := by
  refine ctL_of (cc := cX3_weighMists) (maxL := 7) (by decide) rfl (Nat.le_of_ble_eq_true rfl) ?_
  intro p e s m args below meth c A Q ls F hK hA RET hH hl
  obtain ⟨hx, hb, hml, hown, hts⟩ := id F
  have hl : lv_has ls 7 [(0, .ref (ad 0)), (1, .int v1), (2, .int v2)] := hl
  have hf : wpO (fX3_weighMists v1 v2 yo) (fun v => v = res) := ⟨_, h, rfl⟩
  obtain ⟨H, eH⟩ : ∃ H, H = s.heap := ⟨_, rfl⟩
  obtain ⟨locs, eL⟩ : ∃ locs : List Loc, locs = [] := ⟨_, rfl⟩
  have hH : Hs D A s.heap (wMn cI cJ cQ ad yn ym yk yl yt yd yu ye yv yo y0 y1 yc yh) H locs := by rw [eH, eL]; exact hH
  rw [← eL]
  suffices hgo : W p l e rmX3_weighMists s m args below meth c H locs 0 0 Q (F0 m 0 ls []) by rw [eH] at hgo; exact hgo
  clear eH eL
  refine lv_iconst (v := 0) hx hb dX3_weighMists_0 (by decide) ?_
  refine lv_istore_n (lv' := [(3, .int 0), (0, .ref (ad 0)), (1, .int v1), (2, .int v2)]) hx hb dX3_weighMists_1 rfl hl (by decide) rfl (fun ls hl => ?_)
  have LP : ∀ (Φ : ((Nat → Int64)) → Prop), (∀ (t3 : (Nat → Int64)) (H : Heap) (locs : List Loc) (ls : Array Slot), Φ (t3) → Hs D A s.heap (wMn cI cJ cQ ad yn ym yk yl yt yd yu ye yv t3 y0 y1 yc yh) H locs → lv_has ls 7 [(0, .ref (ad 0)), (1, .int v1), (2, .int v2)] → W p l e rmX3_weighMists s m args below meth c H locs 0 0 Q (F0 m 29 ls [])) → ∀ (n : Nat) (t1 : Int32) (t2 : (Nat → Int64)) (H : Heap) (locs : List Loc) (ls : Array Slot), wpO (lp bX3_weighMists_2 n (t1, t2)) Φ → Hs D A s.heap (wMn cI cJ cQ ad yn ym yk yl yt yd yu ye yv t2 y0 y1 yc yh) H locs → lv_has ls 7 [(0, .ref (ad 0)), (1, .int v1), (2, .int v2), (3, .int t1)] → W p l e rmX3_weighMists s m args below meth c H locs 0 0 Q (F0 m 2 ls []) := by
    intro Φ EX n
    induction n with
    | zero =>
      intro t1 t2 H locs ls hf hH hl
      exact (wp_l0 hf).elim
    | succ n ih =>
      intro t1 t2 H locs ls hf hH hl
      have hf := wp_l hf
      refine lv_iload_n hx hb dX3_weighMists_2 rfl (lv_at hl 3 rfl) ?_
      refine lv_bipush (v := 7) hx hb dX3_weighMists_3 (by decide) ?_
      refine lv_icmp_gt (tgt := 29) hx hb dX3_weighMists_5 (by decide) (fun hc => ?_) (fun hc => ?_)
      · have hf := wp_t hc hf
        have hw := wp_out hf
        exact EX _ _ _ _ hw hH (lv_sub hl [0, 1, 2] rfl)
      · have hf := wp_f hc hf
        refine lv_aload_n hx hb dX3_weighMists_8 rfl (lv_at hl 0 rfl) ?_
        refine k_get (v := .ref (ad 31)) F hK hH 0 inX3_weighMists_X3 8 mbX3_weighMists_f46 dX3_weighMists_9 rfl rfl (by decide) rfl ?_
        refine lv_iload_n hx hb dX3_weighMists_12 rfl (lv_at hl 3 rfl) ?_
        refine lv_iload_n hx hb dX3_weighMists_13 rfl (lv_at hl 3 rfl) ?_
        refine lv_if_ne (tgt := 21) hx hb dX3_weighMists_14 (by decide) (fun hc => ?_) (fun hc => ?_)
        · have hf := wp_f hc hf
          refine lv_lconst (v := 0) hx hb dX3_weighMists_21 (by decide) ?_
          obtain ⟨hi, hf⟩ := wp_n hf
          refine k_last (f := t2) (n := 8) F hK hH 31 dX3_weighMists_22 hi rfl (fun H locs hH => ?_)
          have hH : Hs D A s.heap (wMn cI cJ cQ ad yn ym yk yl yt yd yu ye yv (vp_updL t2 (Int32.toNatClampNeg t1) 0) y0 y1 yc yh) H locs := hH
          refine lv_iinc (v := t1 + 1) (lv' := [(3, .int (t1 + 1)), (0, .ref (ad 0)), (1, .int v1), (2, .int v2)]) hx hb dX3_weighMists_23 hl (k := 3) rfl rfl (by decide) rfl (fun ls hl => ?_)
          refine lv_goto (tgt := 2) hx hb dX3_weighMists_26 (by decide) ?_
          have hw := wp_in hf
          exact ih _ _ _ _ _ hw hH (lv_sub hl [1, 2, 3, 0] rfl)
        · have hf := wp_t hc hf
          refine lv_lconst (v := 1) hx hb dX3_weighMists_17 (by decide) ?_
          refine lv_goto (tgt := 22) hx hb dX3_weighMists_18 (by decide) ?_
          obtain ⟨hi, hf⟩ := wp_n hf
          refine k_last (f := t2) (n := 8) F hK hH 31 dX3_weighMists_22 hi rfl (fun H locs hH => ?_)
          have hH : Hs D A s.heap (wMn cI cJ cQ ad yn ym yk yl yt yd yu ye yv (vp_updL t2 (Int32.toNatClampNeg t1) 1) y0 y1 yc yh) H locs := hH
          refine lv_iinc (v := t1 + 1) (lv' := [(3, .int (t1 + 1)), (0, .ref (ad 0)), (1, .int v1), (2, .int v2)]) hx hb dX3_weighMists_23 hl (k := 3) rfl rfl (by decide) rfl (fun ls hl => ?_)
          refine lv_goto (tgt := 2) hx hb dX3_weighMists_26 (by decide) ?_
          have hw := wp_in hf
          exact ih _ _ _ _ _ hw hH (lv_sub hl [1, 2, 3, 0] rfl)
  refine LP _ (fun t3 H locs ls hf hH hl => ?_) fu _ _ _ _ _ (wp_bb hf) hH (lv_sub hl [1, 2, 3, 0] rfl)
  refine lv_lconst (v := 1) hx hb dX3_weighMists_29 (by decide) ?_
  refine lv_lstore_n (lv' := [(3, .long 1), (0, .ref (ad 0)), (1, .int v1), (2, .int v2)]) hx hb dX3_weighMists_30 rfl hl (by decide) rfl (fun ls hl => ?_)
  refine lv_iconst (v := 0) hx hb dX3_weighMists_31 (by decide) ?_
  refine lv_istore (lv' := [(5, .int 0), (3, .long 1), (0, .ref (ad 0)), (1, .int v1), (2, .int v2)]) hx hb dX3_weighMists_32 hl (by decide) rfl (fun ls hl => ?_)
  have LP : ∀ (Φ : (Int64 × (Nat → Int64)) → Prop), (∀ (t7 : Int64) (t8 : (Nat → Int64)) (H : Heap) (locs : List Loc) (ls : Array Slot), Φ ((t7, t8)) → Hs D A s.heap (wMn cI cJ cQ ad yn ym yk yl yt yd yu ye yv t8 y0 y1 yc yh) H locs → lv_has ls 7 [(3, .long t7)] → W p l e rmX3_weighMists s m args below meth c H locs 0 0 Q (F0 m 108 ls [])) → ∀ (n : Nat) (t4 : Int64) (t5 : Int32) (t6 : (Nat → Int64)) (H : Heap) (locs : List Loc) (ls : Array Slot), wpO (lp (bX3_weighMists_34 v1 v2) n (t4, t5, t6)) Φ → Hs D A s.heap (wMn cI cJ cQ ad yn ym yk yl yt yd yu ye yv t6 y0 y1 yc yh) H locs → lv_has ls 7 [(0, .ref (ad 0)), (1, .int v1), (2, .int v2), (3, .long t4), (5, .int t5)] → W p l e rmX3_weighMists s m args below meth c H locs 0 0 Q (F0 m 34 ls []) := by
    intro Φ EX n
    induction n with
    | zero =>
      intro t4 t5 t6 H locs ls hf hH hl
      exact (wp_l0 hf).elim
    | succ n ih =>
      intro t4 t5 t6 H locs ls hf hH hl
      have hf := wp_l hf
      refine lv_iload hx hb dX3_weighMists_34 (lv_at hl 4 rfl) ?_
      refine lv_iload_n hx hb dX3_weighMists_36 rfl (lv_at hl 1 rfl) ?_
      refine lv_icmp_ge (tgt := 108) hx hb dX3_weighMists_37 (by decide) (fun hc => ?_) (fun hc => ?_)
      · have hf := wp_t hc hf
        have hw := wp_out hf
        exact EX _ _ _ _ _ hw hH (lv_sub hl [3] rfl)
      · have hf := wp_f hc hf
        refine lv_bipush (v := 7) hx hb dX3_weighMists_40 (by decide) ?_
        refine lv_istore (lv' := [(6, .int 7), (0, .ref (ad 0)), (1, .int v1), (2, .int v2), (3, .long t4), (5, .int t5)]) hx hb dX3_weighMists_42 hl (by decide) rfl (fun ls hl => ?_)
        have LP : ∀ (Φ : ((Nat → Int64)) → Prop), (∀ (t11 : (Nat → Int64)) (H : Heap) (locs : List Loc) (ls : Array Slot), Φ (t11) → Hs D A s.heap (wMn cI cJ cQ ad yn ym yk yl yt yd yu ye yv t11 y0 y1 yc yh) H locs → lv_has ls 7 [(0, .ref (ad 0)), (1, .int v1), (2, .int v2), (3, .long t4), (5, .int t5)] → W p l e rmX3_weighMists s m args below meth c H locs 0 0 Q (F0 m 84 ls [])) → ∀ (n : Nat) (t9 : Int32) (t10 : (Nat → Int64)) (H : Heap) (locs : List Loc) (ls : Array Slot), wpO (lp (bX3_weighMists_44 v2) n (t9, t10)) Φ → Hs D A s.heap (wMn cI cJ cQ ad yn ym yk yl yt yd yu ye yv t10 y0 y1 yc yh) H locs → lv_has ls 7 [(0, .ref (ad 0)), (1, .int v1), (2, .int v2), (3, .long t4), (5, .int t5), (6, .int t9)] → W p l e rmX3_weighMists s m args below meth c H locs 0 0 Q (F0 m 44 ls []) := by
          intro Φ EX n
          induction n with
          | zero =>
            intro t9 t10 H locs ls hf hH hl
            exact (wp_l0 hf).elim
          | succ n ih =>
            intro t9 t10 H locs ls hf hH hl
            have hf := wp_l hf
            refine lv_iload hx hb dX3_weighMists_44 (lv_at hl 5 rfl) ?_
            refine lv_if_le (tgt := 84) hx hb dX3_weighMists_46 (by decide) (fun hc => ?_) (fun hc => ?_)
            · have hf := wp_t hc hf
              have hw := wp_out hf
              exact EX _ _ _ _ hw hH (lv_sub hl [0, 1, 2, 3, 4] rfl)
            · have hf := wp_f hc hf
              refine lv_aload_n hx hb dX3_weighMists_49 rfl (lv_at hl 0 rfl) ?_
              refine k_get (v := .ref (ad 31)) F hK hH 0 inX3_weighMists_X3 8 mbX3_weighMists_f46 dX3_weighMists_50 rfl rfl (by decide) rfl ?_
              refine lv_iload hx hb dX3_weighMists_53 (lv_at hl 5 rfl) ?_
              refine lv_aload_n hx hb dX3_weighMists_55 rfl (lv_at hl 0 rfl) ?_
              refine k_get (v := .ref (ad 31)) F hK hH 0 inX3_weighMists_X3 8 mbX3_weighMists_f46 dX3_weighMists_56 rfl rfl (by decide) rfl ?_
              refine lv_iload hx hb dX3_weighMists_59 (lv_at hl 5 rfl) ?_
              obtain ⟨hi, hf⟩ := wp_n hf
              refine k_lald (f := t10) (n := 8) F hK hH 31 dX3_weighMists_61 hi rfl ?_
              refine lv_iload_n hx hb dX3_weighMists_62 rfl (lv_at hl 2 rfl) ?_
              refine lv_iconst (v := 1) hx hb dX3_weighMists_63 (by decide) ?_
              refine lv_isub hx hb dX3_weighMists_64 ?_
              refine lv_i2l (v := Int32.toInt64 (v2 - 1)) hx hb dX3_weighMists_65 rfl ?_
              refine lv_lmul hx hb dX3_weighMists_66 ?_
              refine lv_aload_n hx hb dX3_weighMists_67 rfl (lv_at hl 0 rfl) ?_
              refine k_get (v := .ref (ad 31)) F hK hH 0 inX3_weighMists_X3 8 mbX3_weighMists_f46 dX3_weighMists_68 rfl rfl (by decide) rfl ?_
              refine lv_iload hx hb dX3_weighMists_71 (lv_at hl 5 rfl) ?_
              refine lv_iconst (v := 1) hx hb dX3_weighMists_73 (by decide) ?_
              refine lv_isub hx hb dX3_weighMists_74 ?_
              obtain ⟨hi, hf⟩ := wp_n hf
              refine k_lald (f := t10) (n := 8) F hK hH 31 dX3_weighMists_75 hi rfl ?_
              refine lv_ladd hx hb dX3_weighMists_76 ?_
              obtain ⟨hi, hf⟩ := wp_n hf
              refine k_last (f := t10) (n := 8) F hK hH 31 dX3_weighMists_77 hi rfl (fun H locs hH => ?_)
              have hH : Hs D A s.heap (wMn cI cJ cQ ad yn ym yk yl yt yd yu ye yv (vp_updL t10 (Int32.toNatClampNeg t9) (((t10 (Int32.toNatClampNeg t9)) * (Int32.toInt64 (v2 - 1))) + (t10 (Int32.toNatClampNeg (t9 - 1))))) y0 y1 yc yh) H locs := hH
              refine lv_iinc (v := t9 + (-1)) (lv' := [(6, .int (t9 + (-1))), (0, .ref (ad 0)), (1, .int v1), (2, .int v2), (3, .long t4), (5, .int t5)]) hx hb dX3_weighMists_78 hl (k := 5) rfl rfl (by decide) rfl (fun ls hl => ?_)
              refine lv_goto (tgt := 44) hx hb dX3_weighMists_81 (by decide) ?_
              have hw := wp_in hf
              exact ih _ _ _ _ _ hw hH (lv_sub hl [1, 2, 3, 4, 5, 0] rfl)
        refine LP _ (fun t11 H locs ls hf hH hl => ?_) fu _ _ _ _ _ (wp_bb hf) hH (lv_sub hl [1, 2, 3, 4, 5, 0] rfl)
        refine lv_aload_n hx hb dX3_weighMists_84 rfl (lv_at hl 0 rfl) ?_
        refine k_get (v := .ref (ad 31)) F hK hH 0 inX3_weighMists_X3 8 mbX3_weighMists_f46 dX3_weighMists_85 rfl rfl (by decide) rfl ?_
        refine lv_iconst (v := 0) hx hb dX3_weighMists_88 (by decide) ?_
        refine lv_dup2_11 hx hb dX3_weighMists_89 rfl rfl ?_
        refine k_lald (f := t11) (n := 8) F hK hH 31 dX3_weighMists_90 (by decide) rfl ?_
        refine lv_iload_n hx hb dX3_weighMists_91 rfl (lv_at hl 2 rfl) ?_
        refine lv_iconst (v := 1) hx hb dX3_weighMists_92 (by decide) ?_
        refine lv_isub hx hb dX3_weighMists_93 ?_
        refine lv_i2l (v := Int32.toInt64 (v2 - 1)) hx hb dX3_weighMists_94 rfl ?_
        refine lv_lmul hx hb dX3_weighMists_95 ?_
        refine k_last (f := t11) (n := 8) F hK hH 31 dX3_weighMists_96 (by decide) rfl (fun H locs hH => ?_)
        have hH : Hs D A s.heap (wMn cI cJ cQ ad yn ym yk yl yt yd yu ye yv (vp_updL t11 (Int32.toNatClampNeg 0) ((t11 (Int32.toNatClampNeg 0)) * (Int32.toInt64 (v2 - 1)))) y0 y1 yc yh) H locs := hH
        refine lv_lload_n hx hb dX3_weighMists_97 rfl (lv_at hl 3 rfl) ?_
        refine lv_iload_n hx hb dX3_weighMists_98 rfl (lv_at hl 2 rfl) ?_
        refine lv_i2l (v := Int32.toInt64 v2) hx hb dX3_weighMists_99 rfl ?_
        refine lv_lmul hx hb dX3_weighMists_100 ?_
        refine lv_lstore_n (lv' := [(3, .long (t4 * (Int32.toInt64 v2))), (0, .ref (ad 0)), (1, .int v1), (2, .int v2), (5, .int t5)]) hx hb dX3_weighMists_101 rfl hl (by decide) rfl (fun ls hl => ?_)
        refine lv_iinc (v := t5 + 1) (lv' := [(5, .int (t5 + 1)), (3, .long (t4 * (Int32.toInt64 v2))), (0, .ref (ad 0)), (1, .int v1), (2, .int v2)]) hx hb dX3_weighMists_102 hl (k := 4) rfl rfl (by decide) rfl (fun ls hl => ?_)
        refine lv_goto (tgt := 34) hx hb dX3_weighMists_105 (by decide) ?_
        have hw := wp_in hf
        exact ih _ _ _ _ _ _ hw hH (lv_sub hl [2, 3, 4, 1, 0] rfl)
  refine LP _ (fun t7 t8 H locs ls hf hH hl => ?_) fu _ _ _ _ _ _ (wp_bb hf) hH (lv_sub hl [2, 3, 4, 1, 0] rfl)
  refine lv_lload_n hx hb dX3_weighMists_108 rfl (lv_at hl 0 rfl) ?_
  have hrs := wp_s hf
  subst hrs
  exact RET H locs ls 109 dX3_weighMists_109 hH

def bX3_commonDivisor_9  : (Int64 × Int64 × Int32) → Option ((Int64 × Int64 × Int32) ⊕ (Int64)) := fun ((t1, t2, t3) : Int64 × Int64 × Int32) =>
  if (100 : Int32) ≤ t3 then
    some (.inr t1)
  else
    if (lg_cmp t2 0) = 0 then
      some (.inr t1)
    else
      if t2 = 0 then none else
      some (.inl (t2, lrem t1 t2, t3 + 1))

def fX3_commonDivisor (v0 : Int64) (v2 : Int64) : Option (Int64) :=
  Option.bind (lp bX3_commonDivisor_9 fu (v0, v2, 0)) fun (t4 : Int64) =>
  some t4

def rmX3_commonDivisor : Room := { frames := 0, cells := 0, slots := 0, locals := 0 }
theorem hdSX3_commonDivisor : yX3_commonDivisor.cls ≠ "java/lang/invoke/MethodHandle" ∧ yX3_commonDivisor.cls ≠ "java/lang/invoke/VarHandle" ∧ (parseMethodDescriptor yX3_commonDivisor.desc).map (fun d => d.parameters.length) = some 2 := by decide +kernel
set_option maxHeartbeats 4000000 in
set_option maxRecDepth 100000 in
theorem ctX3_commonDivisor {l : Launch} {D : va_G} {cI cJ cQ : ClassId}   (v0 : Int64) (v2 : Int64) {res : Int64} (h : fX3_commonDivisor v0 v2 = some res) : CtL l D cI cJ cQ yX3_commonDivisor wsX3_commonDivisor rmX3_commonDivisor [.long v0, .long v2] ([]) res ([]) := by
  refine ctL_of (cc := cX3_commonDivisor) (maxL := 11) (by decide) rfl (Nat.le_of_ble_eq_true rfl) ?_
  intro p e s m args below meth c A Q ls F hK hA RET hH hl
  obtain ⟨hx, hb, hml, hown, hts⟩ := id F
  have hl : lv_has ls 11 [(0, .long v0), (2, .long v2)] := hl
  have hf : wpO (fX3_commonDivisor v0 v2) (fun v => v = res) := ⟨_, h, rfl⟩
  obtain ⟨H, eH⟩ : ∃ H, H = s.heap := ⟨_, rfl⟩
  obtain ⟨locs, eL⟩ : ∃ locs : List Loc, locs = [] := ⟨_, rfl⟩
  have hH : Hs D A s.heap ([]) H locs := by rw [eH, eL]; exact hH
  rw [← eL]
  suffices hgo : W p l e rmX3_commonDivisor s m args below meth c H locs 0 0 Q (F0 m 0 ls []) by rw [eH] at hgo; exact hgo
  clear eH eL
  refine lv_lload_n hx hb dX3_commonDivisor_0 rfl (lv_at hl 0 rfl) ?_
  refine lv_lstore (lv' := [(4, .long v0), (0, .long v0), (2, .long v2)]) hx hb dX3_commonDivisor_1 hl (by decide) rfl (fun ls hl => ?_)
  refine lv_lload_n hx hb dX3_commonDivisor_3 rfl (lv_at hl 2 rfl) ?_
  refine lv_lstore (lv' := [(6, .long v2), (4, .long v0), (0, .long v0), (2, .long v2)]) hx hb dX3_commonDivisor_4 hl (by decide) rfl (fun ls hl => ?_)
  refine lv_iconst (v := 0) hx hb dX3_commonDivisor_6 (by decide) ?_
  refine lv_istore (lv' := [(8, .int 0), (6, .long v2), (4, .long v0), (0, .long v0), (2, .long v2)]) hx hb dX3_commonDivisor_7 hl (by decide) rfl (fun ls hl => ?_)
  have LP : ∀ (Φ : (Int64) → Prop), (∀ (t4 : Int64) (H : Heap) (locs : List Loc) (ls : Array Slot), Φ (t4) → Hs D A s.heap ([]) H locs → lv_has ls 11 [(4, .long t4)] → W p l e rmX3_commonDivisor s m args below meth c H locs 0 0 Q (F0 m 44 ls [])) → ∀ (n : Nat) (t1 : Int64) (t2 : Int64) (t3 : Int32) (H : Heap) (locs : List Loc) (ls : Array Slot), wpO (lp bX3_commonDivisor_9 n (t1, t2, t3)) Φ → Hs D A s.heap ([]) H locs → lv_has ls 11 [(4, .long t1), (6, .long t2), (8, .int t3)] → W p l e rmX3_commonDivisor s m args below meth c H locs 0 0 Q (F0 m 9 ls []) := by
    intro Φ EX n
    induction n with
    | zero =>
      intro t1 t2 t3 H locs ls hf hH hl
      exact (wp_l0 hf).elim
    | succ n ih =>
      intro t1 t2 t3 H locs ls hf hH hl
      have hf := wp_l hf
      refine lv_iload hx hb dX3_commonDivisor_9 (lv_at hl 2 rfl) ?_
      refine lv_bipush (v := 100) hx hb dX3_commonDivisor_11 (by decide) ?_
      refine lv_icmp_ge (tgt := 44) hx hb dX3_commonDivisor_13 (by decide) (fun hc => ?_) (fun hc => ?_)
      · have hf := wp_t hc hf
        have hw := wp_out hf
        exact EX _ _ _ _ hw hH (lv_sub hl [0] rfl)
      · have hf := wp_f hc hf
        refine lv_lload hx hb dX3_commonDivisor_16 (lv_at hl 1 rfl) ?_
        refine lv_lconst (v := 0) hx hb dX3_commonDivisor_18 (by decide) ?_
        refine W.lcmp hx hb dX3_commonDivisor_19 ?_
        refine lv_if_eq (tgt := 44) hx hb dX3_commonDivisor_20 (by decide) (fun hc => ?_) (fun hc => ?_)
        · have hf := wp_t hc hf
          have hw := wp_out hf
          exact EX _ _ _ _ hw hH (lv_sub hl [0] rfl)
        · have hf := wp_f hc hf
          refine lv_lload hx hb dX3_commonDivisor_23 (lv_at hl 0 rfl) ?_
          refine lv_lload hx hb dX3_commonDivisor_25 (lv_at hl 1 rfl) ?_
          obtain ⟨hz, hf⟩ := wp_n hf
          refine lv_lrem hx hb dX3_commonDivisor_27 hz ?_
          refine lv_lstore (lv' := [(9, .long (lrem t1 t2)), (4, .long t1), (6, .long t2), (8, .int t3)]) hx hb dX3_commonDivisor_28 hl (by decide) rfl (fun ls hl => ?_)
          refine lv_lload hx hb dX3_commonDivisor_30 (lv_at hl 2 rfl) ?_
          refine lv_lstore (lv' := [(4, .long t2), (9, .long (lrem t1 t2)), (6, .long t2), (8, .int t3)]) hx hb dX3_commonDivisor_32 hl (by decide) rfl (fun ls hl => ?_)
          refine lv_lload hx hb dX3_commonDivisor_34 (lv_at hl 1 rfl) ?_
          refine lv_lstore (lv' := [(6, .long (lrem t1 t2)), (4, .long t2), (9, .long (lrem t1 t2)), (8, .int t3)]) hx hb dX3_commonDivisor_36 hl (by decide) rfl (fun ls hl => ?_)
          refine lv_iinc (v := t3 + 1) (lv' := [(8, .int (t3 + 1)), (6, .long (lrem t1 t2)), (4, .long t2), (9, .long (lrem t1 t2))]) hx hb dX3_commonDivisor_38 hl (k := 3) rfl rfl (by decide) rfl (fun ls hl => ?_)
          refine lv_goto (tgt := 9) hx hb dX3_commonDivisor_41 (by decide) ?_
          have hw := wp_in hf
          exact ih _ _ _ _ _ _ hw hH (lv_sub hl [2, 1, 0] rfl)
  refine LP _ (fun t4 H locs ls hf hH hl => ?_) fu _ _ _ _ _ _ (wp_bb hf) hH (lv_sub hl [2, 1, 0] rfl)
  refine lv_lload hx hb dX3_commonDivisor_44 (lv_at hl 0 rfl) ?_
  have hrs := wp_s hf
  subst hrs
  exact RET H locs ls 46 dX3_commonDivisor_46 hH

def fX3_partOf (v0 : Int64) (v2 : Int64) (v4 : Int32) : Option (Int64) :=
  Option.bind (fX3_commonDivisor v0 v2) fun x1 =>
  Option.bind (if v4 = 0 then
      some v0
    else
      some v2) fun (t2 : Int64) =>
  if (lg_cmp x1 0) = 0 then
    some t2
  else
    if x1 = 0 then none else
    some (t2 / x1)

def rmX3_partOf : Room := { frames := 1, cells := 0, slots := 0, locals := 30 }
theorem hdSX3_partOf : yX3_partOf.cls ≠ "java/lang/invoke/MethodHandle" ∧ yX3_partOf.cls ≠ "java/lang/invoke/VarHandle" ∧ (parseMethodDescriptor yX3_partOf.desc).map (fun d => d.parameters.length) = some 3 := by decide +kernel
set_option maxHeartbeats 4000000 in
set_option maxRecDepth 100000 in
theorem ctX3_partOf {l : Launch} {D : va_G} {cI cJ cQ : ClassId}   (v0 : Int64) (v2 : Int64) (v4 : Int32) {res : Int64} (h : fX3_partOf v0 v2 v4 = some res) : CtL l D cI cJ cQ yX3_partOf wsX3_partOf rmX3_partOf [.long v0, .long v2, .int v4] ([]) res ([]) := by
  refine ctL_of (cc := cX3_partOf) (maxL := 9) (by decide) rfl (Nat.le_of_ble_eq_true rfl) ?_
  intro p e s m args below meth c A Q ls F hK hA RET hH hl
  obtain ⟨hx, hb, hml, hown, hts⟩ := id F
  have hl : lv_has ls 9 [(0, .long v0), (2, .long v2), (4, .int v4)] := hl
  have hf : wpO (fX3_partOf v0 v2 v4) (fun v => v = res) := ⟨_, h, rfl⟩
  obtain ⟨H, eH⟩ : ∃ H, H = s.heap := ⟨_, rfl⟩
  obtain ⟨locs, eL⟩ : ∃ locs : List Loc, locs = [] := ⟨_, rfl⟩
  have hH : Hs D A s.heap ([]) H locs := by rw [eH, eL]; exact hH
  rw [← eL]
  suffices hgo : W p l e rmX3_partOf s m args below meth c H locs 0 0 Q (F0 m 0 ls []) by rw [eH] at hgo; exact hgo
  clear eH eL
  refine lv_lload_n hx hb dX3_partOf_0 rfl (lv_at hl 0 rfl) ?_
  refine lv_lload_n hx hb dX3_partOf_1 rfl (lv_at hl 1 rfl) ?_
  obtain ⟨x1, hcl, hf⟩ := wp_b hf
  refine k_Sl F hK hH hA hl.1 ⟨Nat.zero_le _, Nat.zero_le _⟩ [] [.long v0, .long v2] [] (ctX3_commonDivisor v0 v2 hcl) (va_cwS 2 hts gX3_partOf_X3_commonDivisor rfl rfl rfl hdSX3_commonDivisor ⟨Nat.le_of_ble_eq_true rfl, Nat.le_of_ble_eq_true rfl⟩) dX3_partOf_2 rfl rfl (Nat.le_of_ble_eq_true rfl) rfl rfl (by decide) (fun H locs hH => ?_)
  have hH : Hs D A s.heap ([]) H locs := hH
  refine lv_lstore (lv' := [(5, .long x1), (0, .long v0), (2, .long v2), (4, .int v4)]) hx hb dX3_partOf_5 hl (by decide) rfl (fun ls hl => ?_)
  refine lv_iload hx hb dX3_partOf_7 (lv_at hl 3 rfl) ?_
  refine join_ (α := Int64) (fun Φ => ∀ (t2 : Int64) (H : Heap) (locs : List Loc) (ls : Array Slot), Φ t2 → Hs D A s.heap ([]) H locs → lv_has ls 9 [(5, .long x1)] → W p l e rmX3_partOf s m args below meth c H locs 0 0 Q (F0 m 17 ls [.long t2])) (wp_bb hf) ?_ ?_
  · intro t2 H locs ls hf hH hl
    refine lv_lstore (lv' := [(7, .long t2), (5, .long x1)]) hx hb dX3_partOf_17 hl (by decide) rfl (fun ls hl => ?_)
    refine lv_lload hx hb dX3_partOf_19 (lv_at hl 1 rfl) ?_
    refine lv_lconst (v := 0) hx hb dX3_partOf_21 (by decide) ?_
    refine W.lcmp hx hb dX3_partOf_22 ?_
    refine lv_if_ne (tgt := 31) hx hb dX3_partOf_23 (by decide) (fun hc => ?_) (fun hc => ?_)
    · have hf := wp_f hc hf
      refine lv_lload hx hb dX3_partOf_31 (lv_at hl 0 rfl) ?_
      refine lv_lload hx hb dX3_partOf_33 (lv_at hl 1 rfl) ?_
      obtain ⟨hz, hf⟩ := wp_n hf
      refine lv_ldiv hx hb dX3_partOf_35 hz ?_
      have hrs := wp_s hf
      subst hrs
      exact RET H locs ls 36 dX3_partOf_36 hH
    · have hf := wp_t hc hf
      refine lv_lload hx hb dX3_partOf_26 (lv_at hl 0 rfl) ?_
      refine lv_goto (tgt := 36) hx hb dX3_partOf_28 (by decide) ?_
      have hrs := wp_s hf
      subst hrs
      exact RET H locs ls 36 dX3_partOf_36 hH
  · intro Φ JJ hf
    refine lv_if_ne (tgt := 16) hx hb dX3_partOf_9 (by decide) (fun hc => ?_) (fun hc => ?_)
    · have hf := wp_f hc hf
      refine lv_lload_n hx hb dX3_partOf_16 rfl (lv_at hl 2 rfl) ?_
      have hw := wp_s hf
      exact JJ _ _ _ _ hw hH (lv_sub hl [0] rfl)
    · have hf := wp_t hc hf
      refine lv_lload_n hx hb dX3_partOf_12 rfl (lv_at hl 1 rfl) ?_
      refine lv_goto (tgt := 17) hx hb dX3_partOf_13 (by decide) ?_
      have hw := wp_s hf
      exact JJ _ _ _ _ hw hH (lv_sub hl [0] rfl)

