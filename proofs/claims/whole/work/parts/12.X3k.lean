def bX3_lots_73  : (Int32 × LandT × Int32) → Option ((Int32 × LandT × Int32) ⊕ (LandT × Int32)) := fun ((t13, t14, t15) : Int32 × LandT × Int32) =>
  if (gN t14) ≤ t13 then
    some (.inr (t14, t15))
  else
    Option.bind (fX2_draw 16 t15) fun x18 =>
    if ob t13 7 then none else
    some (.inl (t13 + 1, (gH t14, gR t14, gK t14, gF t14, upd (gP t14) (Int32.toNatClampNeg t13) x18.1, gV t14, gQ t14, gN t14, gD t14, gE t14, gT t14), x18.2))

def bX3_lots_64 (v1 : Int32) : (Int32 × Int32 × Int32 × LandT × Int32) → Option ((Int32 × Int32 × Int32 × LandT × Int32) ⊕ (Int32 × Int32 × LandT × Int32)) := fun ((t4, t5, t6, t7, t8) : Int32 × Int32 × Int32 × LandT × Int32) =>
  if v1 ≤ t6 then
    some (.inr (t4, t5, t7, t8))
  else
    Option.bind (lp bX3_lots_73 fu (0, t7, t8)) fun ((t16, t17) : LandT × Int32) =>
    Option.bind (fX2_draw 10 t17) fun x19 =>
    Option.bind (fX0_sightFrom x19.1 t16) fun x20 =>
    Option.bind (fX0_verdictIn x20 t16) fun x21 =>
    Option.bind (if x21 = 1 then
        some 1
      else
        some 0) fun (t22 : Int32) =>
    Option.bind (fJ6_bitCount_0f7a4 x20) fun x23 =>
    some (.inl (t4 + t22, t5 + x23, t6 + 1, t16, x19.2))

def fX3_lots (v1 : Int32) (v2 : Int32) (v3 : Int32) (yn : LandT) (ym : LandT) (yd : Int32) (ye : (Nat → Int32)) : Option (Int32 × LandT × Int32 × (Nat → Int32)) :=
  Option.bind (fX3_isWithin v1 1 20) fun x1 =>
  if x1 = 0 then
    Option.bind (if (1 : Int32) ≤ v1 then
        some (-6)
      else
        some (-4)) fun (t25 : Int32) =>
    Option.bind (fX3_refuse t25 ye) fun x26 =>
    some (x26.1, ym, yd, x26.2)
  else
    Option.bind (fX3_isEither v3) fun x2 =>
    if x2 = 0 then
      Option.bind (fX3_refuse (-2) ye) fun x24 =>
      some (x24.1, ym, yd, x24.2)
    else
      Option.bind (fX3_inMind yn ym) fun x3 =>
      Option.bind (lp (bX3_lots_64 v1) fu (0, 0, 0, x3, v2)) fun ((t9, t10, t11, t12) : Int32 × Int32 × LandT × Int32) =>
      if v3 = 0 then
        some (t9, t11, t12, ye)
      else
        some (t10, t11, t12, ye)

def rmX3_lots : Room := { frames := 4, cells := 0, slots := 0, locals := 101 }
theorem mbX3_lots_f32 : Cond.fieldLink RX3 32 (TX3 4).1 (TX3 4).2.1 (TX3 4).2.2.1 ∈ wsX3_lots := by decide +kernel
theorem inX3_lots_X3 : ∀ w ∈ wsX30, w ∈ wsX3_lots := by decide +kernel
theorem mbX3_lots_f267 : Cond.fieldLink RX3 267 (TX2 0).1 (TX2 0).2.1 (TX2 0).2.2.1 ∈ wsX3_lots := by decide +kernel
theorem mbX3_lots_f210 : Cond.fieldLink RX3 210 (TX0 7).1 (TX0 7).2.1 (TX0 7).2.2.1 ∈ wsX3_lots := by decide +kernel
theorem inX3_lots_X0 : ∀ w ∈ wsX00, w ∈ wsX3_lots := by decide +kernel
theorem mbX3_lots_f98 : Cond.fieldLink RX3 98 (TX0 4).1 (TX0 4).2.1 (TX0 4).2.2.1 ∈ wsX3_lots := by decide +kernel
theorem inX3_lots_X2 : ∀ w ∈ wsX20, w ∈ wsX3_lots := by decide +kernel
theorem hdVX3_lots : yX3_lots.cls = RX3 ∧ yX3_lots.cls ≠ "java/lang/invoke/MethodHandle" ∧ yX3_lots.cls ≠ "java/lang/invoke/VarHandle" ∧ (parseMethodDescriptor yX3_lots.desc).map (fun d => d.parameters.length) = some 3 := by decide +kernel
set_option maxHeartbeats 4000000 in
set_option maxRecDepth 100000 in
theorem ctX3_lots {l : Launch} {D : va_G} {cI cJ cQ : ClassId} (ad : Nat → Nat) (yn : LandT) (ym : LandT) (yk : LandT) (yl : (Nat → Int32)) (yt : Int32) (yd : Int32) (yu : (Nat → Int32)) (ye : (Nat → Int32)) (yv : (Nat → Int32)) (yo : (Nat → Int64)) (y0 : (Nat → Int32)) (y1 : (Nat → Int32)) (yc : Int32) (yh : Int32) (v1 : Int32) (v2 : Int32) (v3 : Int32) {res : Int32 × LandT × Int32 × (Nat → Int32)} (h : fX3_lots v1 v2 v3 yn ym yd ye = some res) : CtI l D cI cJ cQ yX3_lots wsX3_lots rmX3_lots [.ref (ad 0), .int v1, .int v2, .int v3] (wMn cI cJ cQ ad yn ym yk yl yt yd yu ye yv yo y0 y1 yc yh) res.1 (wMn cI cJ cQ ad yn res.2.1 yk yl yt res.2.2.1 yu res.2.2.2 yv yo y0 y1 yc yh) := by
  refine ctI_of .int (cc := cX3_lots) (maxL := 9) (by decide) rfl (Nat.le_of_ble_eq_true rfl) ?_
  intro p e s m args below meth c A Q ls F hK hA RET hH hl
  obtain ⟨hx, hb, hml, hown, hts⟩ := id F
  have hl : lv_has ls 9 [(0, .ref (ad 0)), (1, .int v1), (2, .int v2), (3, .int v3)] := hl
  have hf : wpO (fX3_lots v1 v2 v3 yn ym yd ye) (fun v => v = res) := ⟨_, h, rfl⟩
  obtain ⟨H, eH⟩ : ∃ H, H = s.heap := ⟨_, rfl⟩
  obtain ⟨locs, eL⟩ : ∃ locs : List Loc, locs = [] := ⟨_, rfl⟩
  have hH : Hs D A s.heap (wMn cI cJ cQ ad yn ym yk yl yt yd yu ye yv yo y0 y1 yc yh) H locs := by rw [eH, eL]; exact hH
  rw [← eL]
  suffices hgo : W p l e rmX3_lots s m args below meth c H locs 0 0 Q (F0 m 0 ls []) by rw [eH] at hgo; exact hgo
  clear eH eL
  refine lv_iload_n hx hb dX3_lots_0 rfl (lv_at hl 1 rfl) ?_
  refine lv_iconst (v := 1) hx hb dX3_lots_1 (by decide) ?_
  refine lv_bipush (v := 20) hx hb dX3_lots_2 (by decide) ?_
  obtain ⟨x1, hcl, hf⟩ := wp_b hf
  refine k_Si F hK hH hA hl.1 ⟨Nat.zero_le _, Nat.zero_le _⟩ [] [.int v1, .int 1, .int 20] [] (ctX3_isWithin v1 1 20 hcl) (va_cwS 3 hts gX3_lots_X3_isWithin rfl rfl rfl hdSX3_isWithin ⟨Nat.le_of_ble_eq_true rfl, Nat.le_of_ble_eq_true rfl⟩) dX3_lots_4 rfl rfl (Nat.le_of_ble_eq_true rfl) rfl rfl (by decide) (fun H locs hH => ?_)
  have hH : Hs D A s.heap (wMn cI cJ cQ ad yn ym yk yl yt yd yu ye yv yo y0 y1 yc yh) H locs := hH
  refine lv_if_ne (tgt := 27) hx hb dX3_lots_7 (by decide) (fun hc => ?_) (fun hc => ?_)
  · have hf := wp_f hc hf
    refine lv_iload_n hx hb dX3_lots_27 rfl (lv_at hl 3 rfl) ?_
    obtain ⟨x2, hcl, hf⟩ := wp_b hf
    refine k_Si F hK hH hA hl.1 ⟨Nat.zero_le _, Nat.zero_le _⟩ [] [.int v3] [] (ctX3_isEither v3 hcl) (va_cwS 1 hts gX3_lots_X3_isEither rfl rfl rfl hdSX3_isEither ⟨Nat.le_of_ble_eq_true rfl, Nat.le_of_ble_eq_true rfl⟩) dX3_lots_28 rfl rfl (Nat.le_of_ble_eq_true rfl) rfl rfl (by decide) (fun H locs hH => ?_)
    have hH : Hs D A s.heap (wMn cI cJ cQ ad yn ym yk yl yt yd yu ye yv yo y0 y1 yc yh) H locs := hH
    refine lv_if_ne (tgt := 41) hx hb dX3_lots_31 (by decide) (fun hc => ?_) (fun hc => ?_)
    · have hf := wp_f hc hf
      refine lv_iconst (v := 0) hx hb dX3_lots_41 (by decide) ?_
      refine lv_istore (lv' := [(4, .int 0), (0, .ref (ad 0)), (1, .int v1), (2, .int v2), (3, .int v3)]) hx hb dX3_lots_42 hl (by decide) rfl (fun ls hl => ?_)
      refine lv_iconst (v := 0) hx hb dX3_lots_44 (by decide) ?_
      refine lv_istore (lv' := [(5, .int 0), (4, .int 0), (0, .ref (ad 0)), (1, .int v1), (2, .int v2), (3, .int v3)]) hx hb dX3_lots_45 hl (by decide) rfl (fun ls hl => ?_)
      refine lv_aload_n hx hb dX3_lots_47 rfl (lv_at hl 2 rfl) ?_
      refine k_get (v := .ref (ad 27)) F hK hH 0 inX3_lots_X3 4 mbX3_lots_f32 dX3_lots_48 rfl rfl (by decide) rfl ?_
      refine lv_iload_n hx hb dX3_lots_51 rfl (lv_at hl 4 rfl) ?_
      refine k_put (v := .int v2) F hK hH 27 inX3_lots_X2 tyX2 tyX2_ok nmX2 0 mbX3_lots_f267 dX3_lots_52 rfl rfl (by decide) rfl rfl rfl (Nat.le_of_ble_eq_true rfl) (fun H locs hH => ?_)
      have hH : Hs D A s.heap (wMn cI cJ cQ ad yn ym yk yl yt v2 yu ye yv yo y0 y1 yc yh) H locs := hH
      refine lv_aload_n hx hb dX3_lots_55 rfl (lv_at hl 2 rfl) ?_
      obtain ⟨x3, hcl, hf⟩ := wp_b hf
      refine k_Vr0 F hK hH hA hl.1 ⟨Nat.zero_le _, Nat.zero_le _⟩ [] [] (ctX3_inMind ad yn ym yk yl yt v2 yu ye yv yo y0 y1 yc yh hcl) (cwV 0 hts gX3_lots_X3_inMind rfl rfl rfl hdVX3_inMind ⟨Nat.le_of_ble_eq_true rfl, Nat.le_of_ble_eq_true rfl⟩) dX3_lots_56 0 rfl rfl rfl rfl rfl (Nat.le_of_ble_eq_true rfl) rfl (fun H locs hH => ?_)
      have hH : Hs D A s.heap (wMn cI cJ cQ ad yn x3 yk yl yt v2 yu ye yv yo y0 y1 yc yh) H locs := hH
      refine W.eq (g2 := F0 m 59 ls [.ref (ad 9)]) rfl ?_
      refine lv_astore (lv' := [(6, .ref (ad 9)), (5, .int 0), (4, .int 0), (0, .ref (ad 0)), (1, .int v1), (2, .int v2), (3, .int v3)]) hx hb dX3_lots_59 hl (by decide) rfl (fun ls hl => ?_)
      refine lv_iconst (v := 0) hx hb dX3_lots_61 (by decide) ?_
      refine lv_istore (lv' := [(7, .int 0), (6, .ref (ad 9)), (5, .int 0), (4, .int 0), (0, .ref (ad 0)), (1, .int v1), (2, .int v2), (3, .int v3)]) hx hb dX3_lots_62 hl (by decide) rfl (fun ls hl => ?_)
      have LP : ∀ (Φ : (Int32 × Int32 × LandT × Int32) → Prop), (∀ (t9 : Int32) (t10 : Int32) (t11 : LandT) (t12 : Int32) (H : Heap) (locs : List Loc) (ls : Array Slot), Φ ((t9, t10, t11, t12)) → Hs D A s.heap (wMn cI cJ cQ ad yn t11 yk yl yt t12 yu ye yv yo y0 y1 yc yh) H locs → lv_has ls 9 [(3, .int v3), (4, .int t9), (5, .int t10)] → W p l e rmX3_lots s m args below meth c H locs 0 0 Q (F0 m 159 ls [])) → ∀ (n : Nat) (t4 : Int32) (t5 : Int32) (t6 : Int32) (t7 : LandT) (t8 : Int32) (H : Heap) (locs : List Loc) (ls : Array Slot), wpO (lp (bX3_lots_64 v1) n (t4, t5, t6, t7, t8)) Φ → Hs D A s.heap (wMn cI cJ cQ ad yn t7 yk yl yt t8 yu ye yv yo y0 y1 yc yh) H locs → lv_has ls 9 [(0, .ref (ad 0)), (1, .int v1), (3, .int v3), (4, .int t4), (5, .int t5), (6, .ref (ad 9)), (7, .int t6)] → W p l e rmX3_lots s m args below meth c H locs 0 0 Q (F0 m 64 ls []) := by
        intro Φ EX n
        induction n with
        | zero =>
          intro t4 t5 t6 t7 t8 H locs ls hf hH hl
          exact (wp_l0 hf).elim
        | succ n ih =>
          intro t4 t5 t6 t7 t8 H locs ls hf hH hl
          have hf := wp_l hf
          refine lv_iload hx hb dX3_lots_64 (lv_at hl 6 rfl) ?_
          refine lv_iload_n hx hb dX3_lots_66 rfl (lv_at hl 1 rfl) ?_
          refine lv_icmp_ge (tgt := 159) hx hb dX3_lots_67 (by decide) (fun hc => ?_) (fun hc => ?_)
          · have hf := wp_t hc hf
            have hw := wp_out hf
            exact EX _ _ _ _ _ _ _ hw hH (lv_sub hl [2, 3, 4] rfl)
          · have hf := wp_f hc hf
            refine lv_iconst (v := 0) hx hb dX3_lots_70 (by decide) ?_
            refine lv_istore (lv' := [(8, .int 0), (0, .ref (ad 0)), (1, .int v1), (3, .int v3), (4, .int t4), (5, .int t5), (6, .ref (ad 9)), (7, .int t6)]) hx hb dX3_lots_71 hl (by decide) rfl (fun ls hl => ?_)
            have LP : ∀ (Φ : (LandT × Int32) → Prop), (∀ (t16 : LandT) (t17 : Int32) (H : Heap) (locs : List Loc) (ls : Array Slot), Φ ((t16, t17)) → Hs D A s.heap (wMn cI cJ cQ ad yn t16 yk yl yt t17 yu ye yv yo y0 y1 yc yh) H locs → lv_has ls 9 [(0, .ref (ad 0)), (1, .int v1), (3, .int v3), (4, .int t4), (5, .int t5), (6, .ref (ad 9)), (7, .int t6)] → W p l e rmX3_lots s m args below meth c H locs 0 0 Q (F0 m 106 ls [])) → ∀ (n : Nat) (t13 : Int32) (t14 : LandT) (t15 : Int32) (H : Heap) (locs : List Loc) (ls : Array Slot), wpO (lp bX3_lots_73 n (t13, t14, t15)) Φ → Hs D A s.heap (wMn cI cJ cQ ad yn t14 yk yl yt t15 yu ye yv yo y0 y1 yc yh) H locs → lv_has ls 9 [(0, .ref (ad 0)), (1, .int v1), (3, .int v3), (4, .int t4), (5, .int t5), (6, .ref (ad 9)), (7, .int t6), (8, .int t13)] → W p l e rmX3_lots s m args below meth c H locs 0 0 Q (F0 m 73 ls []) := by
              intro Φ EX n
              induction n with
              | zero =>
                intro t13 t14 t15 H locs ls hf hH hl
                exact (wp_l0 hf).elim
              | succ n ih =>
                intro t13 t14 t15 H locs ls hf hH hl
                have hf := wp_l hf
                refine lv_iload hx hb dX3_lots_73 (lv_at hl 7 rfl) ?_
                refine lv_aload hx hb dX3_lots_75 (lv_at hl 5 rfl) ?_
                refine k_get (v := .int (gN t14)) F hK hH 9 inX3_lots_X0 7 mbX3_lots_f210 dX3_lots_77 rfl rfl (by decide) rfl ?_
                refine lv_icmp_ge (tgt := 106) hx hb dX3_lots_80 (by decide) (fun hc => ?_) (fun hc => ?_)
                · have hf := wp_t hc hf
                  have hw := wp_out hf
                  exact EX _ _ _ _ _ hw hH (lv_sub hl [0, 1, 2, 3, 4, 5, 6] rfl)
                · have hf := wp_f hc hf
                  refine lv_aload hx hb dX3_lots_83 (lv_at hl 5 rfl) ?_
                  refine k_get (v := .ref (ad 14)) F hK hH 9 inX3_lots_X0 4 mbX3_lots_f98 dX3_lots_85 rfl rfl (by decide) rfl ?_
                  refine lv_iload hx hb dX3_lots_88 (lv_at hl 7 rfl) ?_
                  refine lv_aload_n hx hb dX3_lots_90 rfl (lv_at hl 0 rfl) ?_
                  refine k_get (v := .ref (ad 27)) F hK hH 0 inX3_lots_X3 4 mbX3_lots_f32 dX3_lots_91 rfl rfl (by decide) rfl ?_
                  refine lv_bipush (v := 16) hx hb dX3_lots_94 (by decide) ?_
                  obtain ⟨x18, hcl, hf⟩ := wp_b hf
                  refine k_Vi F hK hH hA hl.1 ⟨Nat.zero_le _, Nat.zero_le _⟩ [27] [.int 16] [.int t13, .ref (ad 14)] (ctX2_draw (fun k => ad (27 + k)) t15 16 hcl) (cwV 1 hts gX3_lots_X2_draw rfl rfl rfl hdVX2_draw ⟨Nat.le_of_ble_eq_true rfl, Nat.le_of_ble_eq_true rfl⟩) dX3_lots_96 27 rfl rfl rfl rfl rfl (Nat.le_of_ble_eq_true rfl) rfl rfl (by decide) (fun H locs hH => ?_)
                  have hH : Hs D A s.heap (wMn cI cJ cQ ad yn t14 yk yl yt x18.2 yu ye yv yo y0 y1 yc yh) H locs := hH
                  refine W.eq (g2 := F0 m 99 ls [.int x18.1, .int t13, .ref (ad 14)]) rfl ?_
                  obtain ⟨hi, hf⟩ := wp_n hf
                  refine k_iast (f := gP t14) (n := 7) F hK hH 14 dX3_lots_99 hi rfl (fun H locs hH => ?_)
                  have hH : Hs D A s.heap (wMn cI cJ cQ ad yn (gH t14, gR t14, gK t14, gF t14, upd (gP t14) (Int32.toNatClampNeg t13) x18.1, gV t14, gQ t14, gN t14, gD t14, gE t14, gT t14) yk yl yt x18.2 yu ye yv yo y0 y1 yc yh) H locs := hH
                  refine lv_iinc (v := t13 + 1) (lv' := [(8, .int (t13 + 1)), (0, .ref (ad 0)), (1, .int v1), (3, .int v3), (4, .int t4), (5, .int t5), (6, .ref (ad 9)), (7, .int t6)]) hx hb dX3_lots_100 hl (k := 7) rfl rfl (by decide) rfl (fun ls hl => ?_)
                  refine lv_goto (tgt := 73) hx hb dX3_lots_103 (by decide) ?_
                  have hw := wp_in hf
                  exact ih _ _ _ _ _ _ hw hH (lv_sub hl [1, 2, 3, 4, 5, 6, 7, 0] rfl)
            refine LP _ (fun t16 t17 H locs ls hf hH hl => ?_) fu _ _ _ _ _ _ (wp_bb hf) hH (lv_sub hl [1, 2, 3, 4, 5, 6, 7, 0] rfl)
            refine lv_aload hx hb dX3_lots_106 (lv_at hl 5 rfl) ?_
            refine lv_aload_n hx hb dX3_lots_108 rfl (lv_at hl 0 rfl) ?_
            refine k_get (v := .ref (ad 27)) F hK hH 0 inX3_lots_X3 4 mbX3_lots_f32 dX3_lots_109 rfl rfl (by decide) rfl ?_
            refine lv_bipush (v := 10) hx hb dX3_lots_112 (by decide) ?_
            obtain ⟨x19, hcl, hf⟩ := wp_b hf
            refine k_Vi F hK hH hA hl.1 ⟨Nat.zero_le _, Nat.zero_le _⟩ [27] [.int 10] [.ref (ad 9)] (ctX2_draw (fun k => ad (27 + k)) t17 10 hcl) (cwV 1 hts gX3_lots_X2_draw rfl rfl rfl hdVX2_draw ⟨Nat.le_of_ble_eq_true rfl, Nat.le_of_ble_eq_true rfl⟩) dX3_lots_114 27 rfl rfl rfl rfl rfl (Nat.le_of_ble_eq_true rfl) rfl rfl (by decide) (fun H locs hH => ?_)
            have hH : Hs D A s.heap (wMn cI cJ cQ ad yn t16 yk yl yt x19.2 yu ye yv yo y0 y1 yc yh) H locs := hH
            refine W.eq (g2 := F0 m 117 ls [.int x19.1, .ref (ad 9)]) rfl ?_
            obtain ⟨x20, hcl, hf⟩ := wp_b hf
            refine k_Vi F hK hH hA hl.1 ⟨Nat.zero_le _, Nat.zero_le _⟩ [9, 10, 11, 12, 13, 14, 15, 16] [.int x19.1] [] (ctX0_sightFrom (fun k => ad (9 + k)) t16 x19.1 hcl) (cwV 1 hts gX3_lots_X0_sightFrom rfl rfl rfl hdVX0_sightFrom ⟨Nat.le_of_ble_eq_true rfl, Nat.le_of_ble_eq_true rfl⟩) dX3_lots_117 9 rfl rfl rfl rfl rfl (Nat.le_of_ble_eq_true rfl) rfl rfl (by decide) (fun H locs hH => ?_)
            have hH : Hs D A s.heap (wMn cI cJ cQ ad yn t16 yk yl yt x19.2 yu ye yv yo y0 y1 yc yh) H locs := hH
            refine lv_istore (lv' := [(8, .int x20), (0, .ref (ad 0)), (1, .int v1), (3, .int v3), (4, .int t4), (5, .int t5), (6, .ref (ad 9)), (7, .int t6)]) hx hb dX3_lots_120 hl (by decide) rfl (fun ls hl => ?_)
            refine lv_iload hx hb dX3_lots_122 (lv_at hl 4 rfl) ?_
            refine lv_aload hx hb dX3_lots_124 (lv_at hl 6 rfl) ?_
            refine lv_iload hx hb dX3_lots_126 (lv_at hl 0 rfl) ?_
            obtain ⟨x21, hcl, hf⟩ := wp_b hf
            refine k_Vi F hK hH hA hl.1 ⟨Nat.zero_le _, Nat.zero_le _⟩ [9, 10, 11, 12, 13, 14, 15, 16] [.int x20] [.int t4] (ctX0_verdictIn (fun k => ad (9 + k)) t16 x20 hcl) (cwV 1 hts gX3_lots_X0_verdictIn rfl rfl rfl hdVX0_verdictIn ⟨Nat.le_of_ble_eq_true rfl, Nat.le_of_ble_eq_true rfl⟩) dX3_lots_128 9 rfl rfl rfl rfl rfl (Nat.le_of_ble_eq_true rfl) rfl rfl (by decide) (fun H locs hH => ?_)
            have hH : Hs D A s.heap (wMn cI cJ cQ ad yn t16 yk yl yt x19.2 yu ye yv yo y0 y1 yc yh) H locs := hH
            refine lv_iconst (v := 1) hx hb dX3_lots_131 (by decide) ?_
            refine join_ (α := Int32) (fun Φ => ∀ (t22 : Int32) (H : Heap) (locs : List Loc) (ls : Array Slot), Φ t22 → Hs D A s.heap (wMn cI cJ cQ ad yn t16 yk yl yt x19.2 yu ye yv yo y0 y1 yc yh) H locs → lv_has ls 9 [(0, .ref (ad 0)), (1, .int v1), (3, .int v3), (5, .int t5), (6, .ref (ad 9)), (7, .int t6), (8, .int x20)] → W p l e rmX3_lots s m args below meth c H locs 0 0 Q (F0 m 140 ls [.int t22, .int t4])) (wp_bb hf) ?_ ?_
            · intro t22 H locs ls hf hH hl
              refine lv_iadd hx hb dX3_lots_140 ?_
              refine lv_istore (lv' := [(4, .int (t4 + t22)), (0, .ref (ad 0)), (1, .int v1), (3, .int v3), (5, .int t5), (6, .ref (ad 9)), (7, .int t6), (8, .int x20)]) hx hb dX3_lots_141 hl (by decide) rfl (fun ls hl => ?_)
              refine lv_iload hx hb dX3_lots_143 (lv_at hl 4 rfl) ?_
              refine lv_iload hx hb dX3_lots_145 (lv_at hl 7 rfl) ?_
              obtain ⟨x23, hcl, hf⟩ := wp_b hf
              refine k_Si F hK hH hA hl.1 ⟨Nat.zero_le _, Nat.zero_le _⟩ [] [.int x20] [.int t5] (ctJ6_bitCount_0f7a4 x20 hcl) (va_cwS 1 hts gX3_lots_J6_bitCount_0f7a4 rfl rfl rfl hdSJ6_bitCount_0f7a4 ⟨Nat.le_of_ble_eq_true rfl, Nat.le_of_ble_eq_true rfl⟩) dX3_lots_147 rfl rfl (Nat.le_of_ble_eq_true rfl) rfl rfl (by decide) (fun H locs hH => ?_)
              have hH : Hs D A s.heap (wMn cI cJ cQ ad yn t16 yk yl yt x19.2 yu ye yv yo y0 y1 yc yh) H locs := hH
              refine lv_iadd hx hb dX3_lots_150 ?_
              refine lv_istore (lv' := [(5, .int (t5 + x23)), (4, .int (t4 + t22)), (0, .ref (ad 0)), (1, .int v1), (3, .int v3), (6, .ref (ad 9)), (7, .int t6), (8, .int x20)]) hx hb dX3_lots_151 hl (by decide) rfl (fun ls hl => ?_)
              refine lv_iinc (v := t6 + 1) (lv' := [(7, .int (t6 + 1)), (5, .int (t5 + x23)), (4, .int (t4 + t22)), (0, .ref (ad 0)), (1, .int v1), (3, .int v3), (6, .ref (ad 9)), (8, .int x20)]) hx hb dX3_lots_153 hl (k := 6) rfl rfl (by decide) rfl (fun ls hl => ?_)
              refine lv_goto (tgt := 64) hx hb dX3_lots_156 (by decide) ?_
              have hw := wp_in hf
              exact ih _ _ _ _ _ _ _ _ hw hH (lv_sub hl [3, 4, 5, 2, 1, 6, 0] rfl)
            · intro Φ JJ hf
              refine lv_icmp_ne (tgt := 139) hx hb dX3_lots_132 (by decide) (fun hc => ?_) (fun hc => ?_)
              · have hf := wp_f hc hf
                refine lv_iconst (v := 0) hx hb dX3_lots_139 (by decide) ?_
                have hw := wp_s hf
                exact JJ _ _ _ _ hw hH (lv_sub hl [1, 2, 3, 5, 6, 7, 0] rfl)
              · have hf := wp_t hc hf
                refine lv_iconst (v := 1) hx hb dX3_lots_135 (by decide) ?_
                refine lv_goto (tgt := 140) hx hb dX3_lots_136 (by decide) ?_
                have hw := wp_s hf
                exact JJ _ _ _ _ hw hH (lv_sub hl [1, 2, 3, 5, 6, 7, 0] rfl)
      refine LP _ (fun t9 t10 t11 t12 H locs ls hf hH hl => ?_) fu _ _ _ _ _ _ _ _ (wp_bb hf) hH (lv_sub hl [4, 5, 7, 3, 2, 1, 0] rfl)
      refine lv_iload_n hx hb dX3_lots_159 rfl (lv_at hl 0 rfl) ?_
      refine lv_if_ne (tgt := 168) hx hb dX3_lots_160 (by decide) (fun hc => ?_) (fun hc => ?_)
      · have hf := wp_f hc hf
        refine lv_iload hx hb dX3_lots_168 (lv_at hl 2 rfl) ?_
        have hrs := wp_s hf
        subst hrs
        exact RET H locs ls 170 dX3_lots_170 rfl hH
      · have hf := wp_t hc hf
        refine lv_iload hx hb dX3_lots_163 (lv_at hl 1 rfl) ?_
        refine lv_goto (tgt := 170) hx hb dX3_lots_165 (by decide) ?_
        have hrs := wp_s hf
        subst hrs
        exact RET H locs ls 170 dX3_lots_170 rfl hH
    · have hf := wp_t hc hf
      refine lv_aload_n hx hb dX3_lots_34 rfl (lv_at hl 0 rfl) ?_
      refine lv_bipush (v := (-2)) hx hb dX3_lots_35 (by decide) ?_
      obtain ⟨x24, hcl, hf⟩ := wp_b hf
      refine k_Vi0 F hK hH hA hl.1 ⟨Nat.zero_le _, Nat.zero_le _⟩ [.int (-2)] [] (ctX3_refuse ad yn ym yk yl yt yd yu ye yv yo y0 y1 yc yh (-2) hcl) (cwV 1 hts gX3_lots_X3_refuse rfl rfl rfl hdVX3_refuse ⟨Nat.le_of_ble_eq_true rfl, Nat.le_of_ble_eq_true rfl⟩) dX3_lots_37 0 rfl rfl rfl rfl rfl (Nat.le_of_ble_eq_true rfl) rfl (fun H locs hH => ?_)
      have hH : Hs D A s.heap (wMn cI cJ cQ ad yn ym yk yl yt yd yu x24.2 yv yo y0 y1 yc yh) H locs := hH
      refine W.eq (g2 := F0 m 40 ls [.int x24.1]) rfl ?_
      have hrs := wp_s hf
      subst hrs
      exact RET H locs ls 40 dX3_lots_40 rfl hH
  · have hf := wp_t hc hf
    refine lv_aload_n hx hb dX3_lots_10 rfl (lv_at hl 0 rfl) ?_
    refine lv_iload_n hx hb dX3_lots_11 rfl (lv_at hl 1 rfl) ?_
    refine lv_iconst (v := 1) hx hb dX3_lots_12 (by decide) ?_
    refine join_ (α := Int32) (fun Φ => ∀ (t25 : Int32) (H : Heap) (locs : List Loc) (ls : Array Slot), Φ t25 → Hs D A s.heap (wMn cI cJ cQ ad yn ym yk yl yt yd yu ye yv yo y0 y1 yc yh) H locs → lv_has ls 9 [] → W p l e rmX3_lots s m args below meth c H locs 0 0 Q (F0 m 23 ls [.int t25, .ref (ad 0)])) (wp_bb hf) ?_ ?_
    · intro t25 H locs ls hf hH hl
      obtain ⟨x26, hcl, hf⟩ := wp_b hf
      refine k_Vi0 F hK hH hA hl.1 ⟨Nat.zero_le _, Nat.zero_le _⟩ [.int t25] [] (ctX3_refuse ad yn ym yk yl yt yd yu ye yv yo y0 y1 yc yh t25 hcl) (cwV 1 hts gX3_lots_X3_refuse rfl rfl rfl hdVX3_refuse ⟨Nat.le_of_ble_eq_true rfl, Nat.le_of_ble_eq_true rfl⟩) dX3_lots_23 0 rfl rfl rfl rfl rfl (Nat.le_of_ble_eq_true rfl) rfl (fun H locs hH => ?_)
      have hH : Hs D A s.heap (wMn cI cJ cQ ad yn ym yk yl yt yd yu x26.2 yv yo y0 y1 yc yh) H locs := hH
      refine W.eq (g2 := F0 m 26 ls [.int x26.1]) rfl ?_
      have hrs := wp_s hf
      subst hrs
      exact RET H locs ls 26 dX3_lots_26 rfl hH
    · intro Φ JJ hf
      refine lv_icmp_ge (tgt := 21) hx hb dX3_lots_13 (by decide) (fun hc => ?_) (fun hc => ?_)
      · have hf := wp_t hc hf
        refine lv_bipush (v := (-6)) hx hb dX3_lots_21 (by decide) ?_
        have hw := wp_s hf
        exact JJ _ _ _ _ hw hH (lv_sub hl [] rfl)
      · have hf := wp_f hc hf
        refine lv_bipush (v := (-4)) hx hb dX3_lots_16 (by decide) ?_
        refine lv_goto (tgt := 23) hx hb dX3_lots_18 (by decide) ?_
        have hw := wp_s hf
        exact JJ _ _ _ _ hw hH (lv_sub hl [] rfl)

def fX3_image (yn : LandT) (yk : LandT) (yh : Int32) : Option (Int32 × LandT × Int32) :=
  Option.bind (fX0_copyFrom yk yn) fun x1 =>
  some (gT yn, x1, 1)

def rmX3_image : Room := { frames := 2, cells := 0, slots := 0, locals := 81 }
theorem mbX3_image_f19 : Cond.fieldLink RX3 19 (TX3 2).1 (TX3 2).2.1 (TX3 2).2.2.1 ∈ wsX3_image := by decide +kernel
theorem inX3_image_X3 : ∀ w ∈ wsX30, w ∈ wsX3_image := by decide +kernel
theorem mbX3_image_f10 : Cond.fieldLink RX3 10 (TX3 0).1 (TX3 0).2.1 (TX3 0).2.2.1 ∈ wsX3_image := by decide +kernel
theorem mbX3_image_f276 : Cond.fieldLink RX3 276 (TX3 11).1 (TX3 11).2.1 (TX3 11).2.2.1 ∈ wsX3_image := by decide +kernel
theorem mbX3_image_f107 : Cond.fieldLink RX3 107 (TX0 10).1 (TX0 10).2.1 (TX0 10).2.2.1 ∈ wsX3_image := by decide +kernel
theorem inX3_image_X0 : ∀ w ∈ wsX00, w ∈ wsX3_image := by decide +kernel
theorem hdVX3_image : yX3_image.cls = RX3 ∧ yX3_image.cls ≠ "java/lang/invoke/MethodHandle" ∧ yX3_image.cls ≠ "java/lang/invoke/VarHandle" ∧ (parseMethodDescriptor yX3_image.desc).map (fun d => d.parameters.length) = some 0 := by decide +kernel
set_option maxHeartbeats 4000000 in
set_option maxRecDepth 100000 in
theorem ctX3_image {l : Launch} {D : va_G} {cI cJ cQ : ClassId} (ad : Nat → Nat) (yn : LandT) (ym : LandT) (yk : LandT) (yl : (Nat → Int32)) (yt : Int32) (yd : Int32) (yu : (Nat → Int32)) (ye : (Nat → Int32)) (yv : (Nat → Int32)) (yo : (Nat → Int64)) (y0 : (Nat → Int32)) (y1 : (Nat → Int32)) (yc : Int32) (yh : Int32)  {res : Int32 × LandT × Int32} (h : fX3_image yn yk yh = some res) : CtI l D cI cJ cQ yX3_image wsX3_image rmX3_image [.ref (ad 0)] (wMn cI cJ cQ ad yn ym yk yl yt yd yu ye yv yo y0 y1 yc yh) res.1 (wMn cI cJ cQ ad yn ym res.2.1 yl yt yd yu ye yv yo y0 y1 yc res.2.2) := by
  refine ctI_of .int (cc := cX3_image) (maxL := 1) (by decide) rfl (Nat.le_of_ble_eq_true rfl) ?_
  intro p e s m args below meth c A Q ls F hK hA RET hH hl
  obtain ⟨hx, hb, hml, hown, hts⟩ := id F
  have hl : lv_has ls 1 [(0, .ref (ad 0))] := hl
  have hf : wpO (fX3_image yn yk yh) (fun v => v = res) := ⟨_, h, rfl⟩
  obtain ⟨H, eH⟩ : ∃ H, H = s.heap := ⟨_, rfl⟩
  obtain ⟨locs, eL⟩ : ∃ locs : List Loc, locs = [] := ⟨_, rfl⟩
  have hH : Hs D A s.heap (wMn cI cJ cQ ad yn ym yk yl yt yd yu ye yv yo y0 y1 yc yh) H locs := by rw [eH, eL]; exact hH
  rw [← eL]
  suffices hgo : W p l e rmX3_image s m args below meth c H locs 0 0 Q (F0 m 0 ls []) by rw [eH] at hgo; exact hgo
  clear eH eL
  refine lv_aload_n hx hb dX3_image_0 rfl (lv_at hl 0 rfl) ?_
  refine k_get (v := .ref (ad 17)) F hK hH 0 inX3_image_X3 2 mbX3_image_f19 dX3_image_1 rfl rfl (by decide) rfl ?_
  refine lv_aload_n hx hb dX3_image_4 rfl (lv_at hl 0 rfl) ?_
  refine k_get (v := .ref (ad 1)) F hK hH 0 inX3_image_X3 0 mbX3_image_f10 dX3_image_5 rfl rfl (by decide) rfl ?_
  obtain ⟨x1, hcl, hf⟩ := wp_b hf
  refine k_Vv F hK hH hA hl.1 ⟨Nat.zero_le _, Nat.zero_le _⟩ [17, 18, 19, 20, 21, 22, 23, 24, 1, 2, 3, 4, 5, 6, 7, 8] [.ref (ad 1)] [] (ctX0_copyFrom (fun k => ad (17 + k)) (fun k => ad (1 + k)) yk yn hcl) (cwV 1 hts gX3_image_X0_copyFrom rfl rfl rfl hdVX0_copyFrom ⟨Nat.le_of_ble_eq_true rfl, Nat.le_of_ble_eq_true rfl⟩) dX3_image_8 17 rfl rfl rfl rfl rfl (Nat.le_of_ble_eq_true rfl) rfl rfl (by decide) (fun H locs hH => ?_)
  have hH : Hs D A s.heap (wMn cI cJ cQ ad yn ym x1 yl yt yd yu ye yv yo y0 y1 yc yh) H locs := hH
  refine lv_aload_n hx hb dX3_image_11 rfl (lv_at hl 0 rfl) ?_
  refine lv_iconst (v := 1) hx hb dX3_image_12 (by decide) ?_
  refine k_put (v := .int 1) F hK hH 0 inX3_image_X3 tyX3 tyX3_ok nmX3 11 mbX3_image_f276 dX3_image_13 rfl rfl (by decide) rfl rfl rfl (Nat.le_of_ble_eq_true rfl) (fun H locs hH => ?_)
  have hH : Hs D A s.heap (wMn cI cJ cQ ad yn ym x1 yl yt yd yu ye yv yo y0 y1 yc 1) H locs := hH
  refine lv_aload_n hx hb dX3_image_16 rfl (lv_at hl 0 rfl) ?_
  refine k_get (v := .ref (ad 1)) F hK hH 0 inX3_image_X3 0 mbX3_image_f10 dX3_image_17 rfl rfl (by decide) rfl ?_
  refine k_get (v := .int (gT yn)) F hK hH 1 inX3_image_X0 10 mbX3_image_f107 dX3_image_20 rfl rfl (by decide) rfl ?_
  have hrs := wp_s hf
  subst hrs
  exact RET H locs ls 23 dX3_image_23 rfl hH

def fX3_on (yn : LandT) (yk : LandT) (ye : (Nat → Int32)) (yh : Int32) : Option (Int32 × LandT × (Nat → Int32)) :=
  if yh = 0 then
    Option.bind (fX3_refuse (-3) ye) fun x2 =>
    some (x2.1, yn, x2.2)
  else
    Option.bind (fX0_copyFrom yn yk) fun x1 =>
    some (gT x1, x1, ye)

def rmX3_on : Room := { frames := 2, cells := 0, slots := 0, locals := 81 }
theorem mbX3_on_f276 : Cond.fieldLink RX3 276 (TX3 11).1 (TX3 11).2.1 (TX3 11).2.2.1 ∈ wsX3_on := by decide +kernel
theorem inX3_on_X3 : ∀ w ∈ wsX30, w ∈ wsX3_on := by decide +kernel
theorem mbX3_on_f10 : Cond.fieldLink RX3 10 (TX3 0).1 (TX3 0).2.1 (TX3 0).2.2.1 ∈ wsX3_on := by decide +kernel
theorem mbX3_on_f19 : Cond.fieldLink RX3 19 (TX3 2).1 (TX3 2).2.1 (TX3 2).2.2.1 ∈ wsX3_on := by decide +kernel
theorem mbX3_on_f107 : Cond.fieldLink RX3 107 (TX0 10).1 (TX0 10).2.1 (TX0 10).2.2.1 ∈ wsX3_on := by decide +kernel
theorem inX3_on_X0 : ∀ w ∈ wsX00, w ∈ wsX3_on := by decide +kernel
theorem hdVX3_on : yX3_on.cls = RX3 ∧ yX3_on.cls ≠ "java/lang/invoke/MethodHandle" ∧ yX3_on.cls ≠ "java/lang/invoke/VarHandle" ∧ (parseMethodDescriptor yX3_on.desc).map (fun d => d.parameters.length) = some 0 := by decide +kernel
set_option maxHeartbeats 4000000 in
set_option maxRecDepth 100000 in
theorem ctX3_on {l : Launch} {D : va_G} {cI cJ cQ : ClassId} (ad : Nat → Nat) (yn : LandT) (ym : LandT) (yk : LandT) (yl : (Nat → Int32)) (yt : Int32) (yd : Int32) (yu : (Nat → Int32)) (ye : (Nat → Int32)) (yv : (Nat → Int32)) (yo : (Nat → Int64)) (y0 : (Nat → Int32)) (y1 : (Nat → Int32)) (yc : Int32) (yh : Int32)  {res : Int32 × LandT × (Nat → Int32)} (h : fX3_on yn yk ye yh = some res) : CtI l D cI cJ cQ yX3_on wsX3_on rmX3_on [.ref (ad 0)] (wMn cI cJ cQ ad yn ym yk yl yt yd yu ye yv yo y0 y1 yc yh) res.1 (wMn cI cJ cQ ad res.2.1 ym yk yl yt yd yu res.2.2 yv yo y0 y1 yc yh) := by
  refine ctI_of .int (cc := cX3_on) (maxL := 1) (by decide) rfl (Nat.le_of_ble_eq_true rfl) ?_
  intro p e s m args below meth c A Q ls F hK hA RET hH hl
  obtain ⟨hx, hb, hml, hown, hts⟩ := id F
  have hl : lv_has ls 1 [(0, .ref (ad 0))] := hl
  have hf : wpO (fX3_on yn yk ye yh) (fun v => v = res) := ⟨_, h, rfl⟩
  obtain ⟨H, eH⟩ : ∃ H, H = s.heap := ⟨_, rfl⟩
  obtain ⟨locs, eL⟩ : ∃ locs : List Loc, locs = [] := ⟨_, rfl⟩
  have hH : Hs D A s.heap (wMn cI cJ cQ ad yn ym yk yl yt yd yu ye yv yo y0 y1 yc yh) H locs := by rw [eH, eL]; exact hH
  rw [← eL]
  suffices hgo : W p l e rmX3_on s m args below meth c H locs 0 0 Q (F0 m 0 ls []) by rw [eH] at hgo; exact hgo
  clear eH eL
  refine lv_aload_n hx hb dX3_on_0 rfl (lv_at hl 0 rfl) ?_
  refine k_get (v := .int yh) F hK hH 0 inX3_on_X3 11 mbX3_on_f276 dX3_on_1 rfl rfl (by decide) rfl ?_
  refine lv_if_ne (tgt := 14) hx hb dX3_on_4 (by decide) (fun hc => ?_) (fun hc => ?_)
  · have hf := wp_f hc hf
    refine lv_aload_n hx hb dX3_on_14 rfl (lv_at hl 0 rfl) ?_
    refine k_get (v := .ref (ad 1)) F hK hH 0 inX3_on_X3 0 mbX3_on_f10 dX3_on_15 rfl rfl (by decide) rfl ?_
    refine lv_aload_n hx hb dX3_on_18 rfl (lv_at hl 0 rfl) ?_
    refine k_get (v := .ref (ad 17)) F hK hH 0 inX3_on_X3 2 mbX3_on_f19 dX3_on_19 rfl rfl (by decide) rfl ?_
    obtain ⟨x1, hcl, hf⟩ := wp_b hf
    refine k_Vv F hK hH hA hl.1 ⟨Nat.zero_le _, Nat.zero_le _⟩ [1, 2, 3, 4, 5, 6, 7, 8, 17, 18, 19, 20, 21, 22, 23, 24] [.ref (ad 17)] [] (ctX0_copyFrom (fun k => ad (1 + k)) (fun k => ad (17 + k)) yn yk hcl) (cwV 1 hts gX3_on_X0_copyFrom rfl rfl rfl hdVX0_copyFrom ⟨Nat.le_of_ble_eq_true rfl, Nat.le_of_ble_eq_true rfl⟩) dX3_on_22 1 rfl rfl rfl rfl rfl (Nat.le_of_ble_eq_true rfl) rfl rfl (by decide) (fun H locs hH => ?_)
    have hH : Hs D A s.heap (wMn cI cJ cQ ad x1 ym yk yl yt yd yu ye yv yo y0 y1 yc yh) H locs := hH
    refine lv_aload_n hx hb dX3_on_25 rfl (lv_at hl 0 rfl) ?_
    refine k_get (v := .ref (ad 1)) F hK hH 0 inX3_on_X3 0 mbX3_on_f10 dX3_on_26 rfl rfl (by decide) rfl ?_
    refine k_get (v := .int (gT x1)) F hK hH 1 inX3_on_X0 10 mbX3_on_f107 dX3_on_29 rfl rfl (by decide) rfl ?_
    have hrs := wp_s hf
    subst hrs
    exact RET H locs ls 32 dX3_on_32 rfl hH
  · have hf := wp_t hc hf
    refine lv_aload_n hx hb dX3_on_7 rfl (lv_at hl 0 rfl) ?_
    refine lv_bipush (v := (-3)) hx hb dX3_on_8 (by decide) ?_
    obtain ⟨x2, hcl, hf⟩ := wp_b hf
    refine k_Vi0 F hK hH hA hl.1 ⟨Nat.zero_le _, Nat.zero_le _⟩ [.int (-3)] [] (ctX3_refuse ad yn ym yk yl yt yd yu ye yv yo y0 y1 yc yh (-3) hcl) (cwV 1 hts gX3_on_X3_refuse rfl rfl rfl hdVX3_refuse ⟨Nat.le_of_ble_eq_true rfl, Nat.le_of_ble_eq_true rfl⟩) dX3_on_10 0 rfl rfl rfl rfl rfl (Nat.le_of_ble_eq_true rfl) rfl (fun H locs hH => ?_)
    have hH : Hs D A s.heap (wMn cI cJ cQ ad yn ym yk yl yt yd yu x2.2 yv yo y0 y1 yc yh) H locs := hH
    refine W.eq (g2 := F0 m 13 ls [.int x2.1]) rfl ?_
    have hrs := wp_s hf
    subst hrs
    exact RET H locs ls 13 dX3_on_13 rfl hH

def fX3_refusalsOf (v1 : Int32) (ye : (Nat → Int32)) : Option (Int32) :=
  Option.bind (fX3_isWithin v1 11 16) fun x1 =>
  if x1 = 0 then
    some (-9)
  else
    if ob (v1 - 10) 7 then none else
    some (ye (Int32.toNatClampNeg (v1 - 10)))

def rmX3_refusalsOf : Room := { frames := 1, cells := 0, slots := 0, locals := 22 }
theorem mbX3_refusalsOf_f40 : Cond.fieldLink RX3 40 (TX3 6).1 (TX3 6).2.1 (TX3 6).2.2.1 ∈ wsX3_refusalsOf := by decide +kernel
theorem inX3_refusalsOf_X3 : ∀ w ∈ wsX30, w ∈ wsX3_refusalsOf := by decide +kernel
theorem hdVX3_refusalsOf : yX3_refusalsOf.cls = RX3 ∧ yX3_refusalsOf.cls ≠ "java/lang/invoke/MethodHandle" ∧ yX3_refusalsOf.cls ≠ "java/lang/invoke/VarHandle" ∧ (parseMethodDescriptor yX3_refusalsOf.desc).map (fun d => d.parameters.length) = some 1 := by decide +kernel
set_option maxHeartbeats 4000000 in
set_option maxRecDepth 100000 in
theorem ctX3_refusalsOf {l : Launch} {D : va_G} {cI cJ cQ : ClassId} (ad : Nat → Nat) (yn : LandT) (ym : LandT) (yk : LandT) (yl : (Nat → Int32)) (yt : Int32) (yd : Int32) (yu : (Nat → Int32)) (ye : (Nat → Int32)) (yv : (Nat → Int32)) (yo : (Nat → Int64)) (y0 : (Nat → Int32)) (y1 : (Nat → Int32)) (yc : Int32) (yh : Int32) (v1 : Int32) {res : Int32} (h : fX3_refusalsOf v1 ye = some res) : CtI l D cI cJ cQ yX3_refusalsOf wsX3_refusalsOf rmX3_refusalsOf [.ref (ad 0), .int v1] (wMn cI cJ cQ ad yn ym yk yl yt yd yu ye yv yo y0 y1 yc yh) res (wMn cI cJ cQ ad yn ym yk yl yt yd yu ye yv yo y0 y1 yc yh) := by
  refine ctI_of .int (cc := cX3_refusalsOf) (maxL := 3) (by decide) rfl (Nat.le_of_ble_eq_true rfl) ?_
  intro p e s m args below meth c A Q ls F hK hA RET hH hl
  obtain ⟨hx, hb, hml, hown, hts⟩ := id F
  have hl : lv_has ls 3 [(0, .ref (ad 0)), (1, .int v1)] := hl
  have hf : wpO (fX3_refusalsOf v1 ye) (fun v => v = res) := ⟨_, h, rfl⟩
  obtain ⟨H, eH⟩ : ∃ H, H = s.heap := ⟨_, rfl⟩
  obtain ⟨locs, eL⟩ : ∃ locs : List Loc, locs = [] := ⟨_, rfl⟩
  have hH : Hs D A s.heap (wMn cI cJ cQ ad yn ym yk yl yt yd yu ye yv yo y0 y1 yc yh) H locs := by rw [eH, eL]; exact hH
  rw [← eL]
  suffices hgo : W p l e rmX3_refusalsOf s m args below meth c H locs 0 0 Q (F0 m 0 ls []) by rw [eH] at hgo; exact hgo
  clear eH eL
  refine lv_iload_n hx hb dX3_refusalsOf_0 rfl (lv_at hl 1 rfl) ?_
  refine lv_bipush (v := 11) hx hb dX3_refusalsOf_1 (by decide) ?_
  refine lv_bipush (v := 16) hx hb dX3_refusalsOf_3 (by decide) ?_
  obtain ⟨x1, hcl, hf⟩ := wp_b hf
  refine k_Si F hK hH hA hl.1 ⟨Nat.zero_le _, Nat.zero_le _⟩ [] [.int v1, .int 11, .int 16] [] (ctX3_isWithin v1 11 16 hcl) (va_cwS 3 hts gX3_refusalsOf_X3_isWithin rfl rfl rfl hdSX3_isWithin ⟨Nat.le_of_ble_eq_true rfl, Nat.le_of_ble_eq_true rfl⟩) dX3_refusalsOf_5 rfl rfl (Nat.le_of_ble_eq_true rfl) rfl rfl (by decide) (fun H locs hH => ?_)
  have hH : Hs D A s.heap (wMn cI cJ cQ ad yn ym yk yl yt yd yu ye yv yo y0 y1 yc yh) H locs := hH
  refine lv_istore_n (lv' := [(2, .int x1), (0, .ref (ad 0)), (1, .int v1)]) hx hb dX3_refusalsOf_8 rfl hl (by decide) rfl (fun ls hl => ?_)
  refine lv_iload_n hx hb dX3_refusalsOf_9 rfl (lv_at hl 0 rfl) ?_
  refine lv_if_eq (tgt := 25) hx hb dX3_refusalsOf_10 (by decide) (fun hc => ?_) (fun hc => ?_)
  · have hf := wp_t hc hf
    refine lv_bipush (v := (-9)) hx hb dX3_refusalsOf_25 (by decide) ?_
    have hrs := wp_s hf
    subst hrs
    exact RET H locs ls 27 dX3_refusalsOf_27 rfl hH
  · have hf := wp_f hc hf
    refine lv_aload_n hx hb dX3_refusalsOf_13 rfl (lv_at hl 1 rfl) ?_
    refine k_get (v := .ref (ad 29)) F hK hH 0 inX3_refusalsOf_X3 6 mbX3_refusalsOf_f40 dX3_refusalsOf_14 rfl rfl (by decide) rfl ?_
    refine lv_iload_n hx hb dX3_refusalsOf_17 rfl (lv_at hl 2 rfl) ?_
    refine lv_bipush (v := 10) hx hb dX3_refusalsOf_18 (by decide) ?_
    refine lv_isub hx hb dX3_refusalsOf_20 ?_
    obtain ⟨hi, hf⟩ := wp_n hf
    refine k_iald (f := ye) (n := 7) F hK hH 29 dX3_refusalsOf_21 hi rfl ?_
    refine lv_goto (tgt := 27) hx hb dX3_refusalsOf_22 (by decide) ?_
    have hrs := wp_s hf
    subst hrs
    exact RET H locs ls 27 dX3_refusalsOf_27 rfl hH

def fX3_count (v1 : Int32) (yn : LandT) (yt : Int32) (ye : (Nat → Int32)) (yc : Int32) : Option (Int32) :=
  if v1 = 0 then
    some (gN yn)
  else
    if v1 = 1 then
      some (gT yn)
    else
      if v1 = 2 then
        some (gE yn)
      else
        if v1 = 3 then
          some (gD yn)
        else
          if v1 = 4 then
            Option.bind (fX3_sumOf 16 (gH yn)) fun x1 =>
            some x1
          else
            if v1 = 5 then
              Option.bind (fX3_sumOf 6 (gQ yn)) fun x2 =>
              some x2
            else
              if v1 = 6 then
                some yc
              else
                if v1 = 7 then
                  some yt
                else
                  Option.bind (fX3_refusalsOf v1 ye) fun x3 =>
                  some x3

def rmX3_count : Room := { frames := 2, cells := 0, slots := 0, locals := 44 }
theorem mbX3_count_f10 : Cond.fieldLink RX3 10 (TX3 0).1 (TX3 0).2.1 (TX3 0).2.2.1 ∈ wsX3_count := by decide +kernel
theorem inX3_count_X3 : ∀ w ∈ wsX30, w ∈ wsX3_count := by decide +kernel
theorem mbX3_count_f210 : Cond.fieldLink RX3 210 (TX0 7).1 (TX0 7).2.1 (TX0 7).2.2.1 ∈ wsX3_count := by decide +kernel
theorem inX3_count_X0 : ∀ w ∈ wsX00, w ∈ wsX3_count := by decide +kernel
theorem mbX3_count_f107 : Cond.fieldLink RX3 107 (TX0 10).1 (TX0 10).2.1 (TX0 10).2.2.1 ∈ wsX3_count := by decide +kernel
theorem mbX3_count_f152 : Cond.fieldLink RX3 152 (TX0 9).1 (TX0 9).2.1 (TX0 9).2.2.1 ∈ wsX3_count := by decide +kernel
theorem mbX3_count_f280 : Cond.fieldLink RX3 280 (TX0 8).1 (TX0 8).2.1 (TX0 8).2.2.1 ∈ wsX3_count := by decide +kernel
theorem mbX3_count_f118 : Cond.fieldLink RX3 118 (TX0 0).1 (TX0 0).2.1 (TX0 0).2.2.1 ∈ wsX3_count := by decide +kernel
theorem mbX3_count_f130 : Cond.fieldLink RX3 130 (TX0 6).1 (TX0 6).2.1 (TX0 6).2.2.1 ∈ wsX3_count := by decide +kernel
theorem mbX3_count_f261 : Cond.fieldLink RX3 261 (TX3 10).1 (TX3 10).2.1 (TX3 10).2.2.1 ∈ wsX3_count := by decide +kernel
theorem mbX3_count_f25 : Cond.fieldLink RX3 25 (TX3 3).1 (TX3 3).2.1 (TX3 3).2.2.1 ∈ wsX3_count := by decide +kernel
theorem mbX3_count_f283 : Cond.fieldLink RX3 283 (TX1 1).1 (TX1 1).2.1 (TX1 1).2.2.1 ∈ wsX3_count := by decide +kernel
theorem inX3_count_X1 : ∀ w ∈ wsX10, w ∈ wsX3_count := by decide +kernel
theorem hdVX3_count : yX3_count.cls = RX3 ∧ yX3_count.cls ≠ "java/lang/invoke/MethodHandle" ∧ yX3_count.cls ≠ "java/lang/invoke/VarHandle" ∧ (parseMethodDescriptor yX3_count.desc).map (fun d => d.parameters.length) = some 1 := by decide +kernel
set_option maxHeartbeats 4000000 in
set_option maxRecDepth 100000 in
theorem ctX3_count {l : Launch} {D : va_G} {cI cJ cQ : ClassId} (ad : Nat → Nat) (yn : LandT) (ym : LandT) (yk : LandT) (yl : (Nat → Int32)) (yt : Int32) (yd : Int32) (yu : (Nat → Int32)) (ye : (Nat → Int32)) (yv : (Nat → Int32)) (yo : (Nat → Int64)) (y0 : (Nat → Int32)) (y1 : (Nat → Int32)) (yc : Int32) (yh : Int32) (v1 : Int32) {res : Int32} (h : fX3_count v1 yn yt ye yc = some res) : CtI l D cI cJ cQ yX3_count wsX3_count rmX3_count [.ref (ad 0), .int v1] (wMn cI cJ cQ ad yn ym yk yl yt yd yu ye yv yo y0 y1 yc yh) res (wMn cI cJ cQ ad yn ym yk yl yt yd yu ye yv yo y0 y1 yc yh) := by
  refine ctI_of .int (cc := cX3_count) (maxL := 2) (by decide) rfl (Nat.le_of_ble_eq_true rfl) ?_
  intro p e s m args below meth c A Q ls F hK hA RET hH hl
  obtain ⟨hx, hb, hml, hown, hts⟩ := id F
  have hl : lv_has ls 2 [(0, .ref (ad 0)), (1, .int v1)] := hl
  have hf : wpO (fX3_count v1 yn yt ye yc) (fun v => v = res) := ⟨_, h, rfl⟩
  obtain ⟨H, eH⟩ : ∃ H, H = s.heap := ⟨_, rfl⟩
  obtain ⟨locs, eL⟩ : ∃ locs : List Loc, locs = [] := ⟨_, rfl⟩
  have hH : Hs D A s.heap (wMn cI cJ cQ ad yn ym yk yl yt yd yu ye yv yo y0 y1 yc yh) H locs := by rw [eH, eL]; exact hH
  rw [← eL]
  suffices hgo : W p l e rmX3_count s m args below meth c H locs 0 0 Q (F0 m 0 ls []) by rw [eH] at hgo; exact hgo
  clear eH eL
  refine lv_iload_n hx hb dX3_count_0 rfl (lv_at hl 1 rfl) ?_
  by_cases hc0 : v1 = 0
  · have hf := wp_t hc0 hf
    refine lv_tableIn (tgt := 48) hx hb dX3_count_1 (by rw [hc0]; decide) (by rw [hc0]; decide) (by rw [hc0]; try rfl) (by decide) ?_
    refine lv_aload_n hx hb dX3_count_48 rfl (lv_at hl 0 rfl) ?_
    refine k_get (v := .ref (ad 1)) F hK hH 0 inX3_count_X3 0 mbX3_count_f10 dX3_count_49 rfl rfl (by decide) rfl ?_
    refine k_get (v := .int (gN yn)) F hK hH 1 inX3_count_X0 7 mbX3_count_f210 dX3_count_52 rfl rfl (by decide) rfl ?_
    have hrs := wp_s hf
    subst hrs
    exact RET H locs ls 55 dX3_count_55 rfl hH
  · have hf := wp_f hc0 hf
    by_cases hc1 : v1 = 1
    · have hf := wp_t hc1 hf
      refine lv_tableIn (tgt := 56) hx hb dX3_count_1 (by rw [hc1]; decide) (by rw [hc1]; decide) (by rw [hc1]; try rfl) (by decide) ?_
      refine lv_aload_n hx hb dX3_count_56 rfl (lv_at hl 0 rfl) ?_
      refine k_get (v := .ref (ad 1)) F hK hH 0 inX3_count_X3 0 mbX3_count_f10 dX3_count_57 rfl rfl (by decide) rfl ?_
      refine k_get (v := .int (gT yn)) F hK hH 1 inX3_count_X0 10 mbX3_count_f107 dX3_count_60 rfl rfl (by decide) rfl ?_
      have hrs := wp_s hf
      subst hrs
      exact RET H locs ls 63 dX3_count_63 rfl hH
    · have hf := wp_f hc1 hf
      by_cases hc2 : v1 = 2
      · have hf := wp_t hc2 hf
        refine lv_tableIn (tgt := 64) hx hb dX3_count_1 (by rw [hc2]; decide) (by rw [hc2]; decide) (by rw [hc2]; try rfl) (by decide) ?_
        refine lv_aload_n hx hb dX3_count_64 rfl (lv_at hl 0 rfl) ?_
        refine k_get (v := .ref (ad 1)) F hK hH 0 inX3_count_X3 0 mbX3_count_f10 dX3_count_65 rfl rfl (by decide) rfl ?_
        refine k_get (v := .int (gE yn)) F hK hH 1 inX3_count_X0 9 mbX3_count_f152 dX3_count_68 rfl rfl (by decide) rfl ?_
        have hrs := wp_s hf
        subst hrs
        exact RET H locs ls 71 dX3_count_71 rfl hH
      · have hf := wp_f hc2 hf
        by_cases hc3 : v1 = 3
        · have hf := wp_t hc3 hf
          refine lv_tableIn (tgt := 72) hx hb dX3_count_1 (by rw [hc3]; decide) (by rw [hc3]; decide) (by rw [hc3]; try rfl) (by decide) ?_
          refine lv_aload_n hx hb dX3_count_72 rfl (lv_at hl 0 rfl) ?_
          refine k_get (v := .ref (ad 1)) F hK hH 0 inX3_count_X3 0 mbX3_count_f10 dX3_count_73 rfl rfl (by decide) rfl ?_
          refine k_get (v := .int (gD yn)) F hK hH 1 inX3_count_X0 8 mbX3_count_f280 dX3_count_76 rfl rfl (by decide) rfl ?_
          have hrs := wp_s hf
          subst hrs
          exact RET H locs ls 79 dX3_count_79 rfl hH
        · have hf := wp_f hc3 hf
          by_cases hc4 : v1 = 4
          · have hf := wp_t hc4 hf
            refine lv_tableIn (tgt := 80) hx hb dX3_count_1 (by rw [hc4]; decide) (by rw [hc4]; decide) (by rw [hc4]; try rfl) (by decide) ?_
            refine lv_aload_n hx hb dX3_count_80 rfl (lv_at hl 0 rfl) ?_
            refine k_get (v := .ref (ad 1)) F hK hH 0 inX3_count_X3 0 mbX3_count_f10 dX3_count_81 rfl rfl (by decide) rfl ?_
            refine k_get (v := .ref (ad 2)) F hK hH 1 inX3_count_X0 0 mbX3_count_f118 dX3_count_84 rfl rfl (by decide) rfl ?_
            obtain ⟨x1, hcl, hf⟩ := wp_b hf
            refine k_Si F hK hH hA hl.1 ⟨Nat.zero_le _, Nat.zero_le _⟩ [2] [.ref (ad 2)] [] (ctX3_sumOf (ad 2) 16 (gH yn) hcl) (va_cwS 1 hts gX3_count_X3_sumOf rfl rfl rfl hdSX3_sumOf ⟨Nat.le_of_ble_eq_true rfl, Nat.le_of_ble_eq_true rfl⟩) dX3_count_87 rfl rfl (Nat.le_of_ble_eq_true rfl) rfl rfl (by decide) (fun H locs hH => ?_)
            have hH : Hs D A s.heap (wMn cI cJ cQ ad yn ym yk yl yt yd yu ye yv yo y0 y1 yc yh) H locs := hH
            have hrs := wp_s hf
            subst hrs
            exact RET H locs ls 90 dX3_count_90 rfl hH
          · have hf := wp_f hc4 hf
            by_cases hc5 : v1 = 5
            · have hf := wp_t hc5 hf
              refine lv_tableIn (tgt := 91) hx hb dX3_count_1 (by rw [hc5]; decide) (by rw [hc5]; decide) (by rw [hc5]; try rfl) (by decide) ?_
              refine lv_aload_n hx hb dX3_count_91 rfl (lv_at hl 0 rfl) ?_
              refine k_get (v := .ref (ad 1)) F hK hH 0 inX3_count_X3 0 mbX3_count_f10 dX3_count_92 rfl rfl (by decide) rfl ?_
              refine k_get (v := .ref (ad 8)) F hK hH 1 inX3_count_X0 6 mbX3_count_f130 dX3_count_95 rfl rfl (by decide) rfl ?_
              obtain ⟨x2, hcl, hf⟩ := wp_b hf
              refine k_Si F hK hH hA hl.1 ⟨Nat.zero_le _, Nat.zero_le _⟩ [8] [.ref (ad 8)] [] (ctX3_sumOf (ad 8) 6 (gQ yn) hcl) (va_cwS 1 hts gX3_count_X3_sumOf rfl rfl rfl hdSX3_sumOf ⟨Nat.le_of_ble_eq_true rfl, Nat.le_of_ble_eq_true rfl⟩) dX3_count_98 rfl rfl (Nat.le_of_ble_eq_true rfl) rfl rfl (by decide) (fun H locs hH => ?_)
              have hH : Hs D A s.heap (wMn cI cJ cQ ad yn ym yk yl yt yd yu ye yv yo y0 y1 yc yh) H locs := hH
              have hrs := wp_s hf
              subst hrs
              exact RET H locs ls 101 dX3_count_101 rfl hH
            · have hf := wp_f hc5 hf
              by_cases hc6 : v1 = 6
              · have hf := wp_t hc6 hf
                refine lv_tableIn (tgt := 102) hx hb dX3_count_1 (by rw [hc6]; decide) (by rw [hc6]; decide) (by rw [hc6]; try rfl) (by decide) ?_
                refine lv_aload_n hx hb dX3_count_102 rfl (lv_at hl 0 rfl) ?_
                refine k_get (v := .int yc) F hK hH 0 inX3_count_X3 10 mbX3_count_f261 dX3_count_103 rfl rfl (by decide) rfl ?_
                have hrs := wp_s hf
                subst hrs
                exact RET H locs ls 106 dX3_count_106 rfl hH
              · have hf := wp_f hc6 hf
                by_cases hc7 : v1 = 7
                · have hf := wp_t hc7 hf
                  refine lv_tableIn (tgt := 107) hx hb dX3_count_1 (by rw [hc7]; decide) (by rw [hc7]; decide) (by rw [hc7]; try rfl) (by decide) ?_
                  refine lv_aload_n hx hb dX3_count_107 rfl (lv_at hl 0 rfl) ?_
                  refine k_get (v := .ref (ad 25)) F hK hH 0 inX3_count_X3 3 mbX3_count_f25 dX3_count_108 rfl rfl (by decide) rfl ?_
                  refine k_get (v := .int yt) F hK hH 25 inX3_count_X1 1 mbX3_count_f283 dX3_count_111 rfl rfl (by decide) rfl ?_
                  have hrs := wp_s hf
                  subst hrs
                  exact RET H locs ls 114 dX3_count_114 rfl hH
                · have hf := wp_f hc7 hf
                  have hs0 := sw_ne hc0 (show (0 : Int32).toInt = 0 from rfl)
                  have hs1 := sw_ne hc1 (show (1 : Int32).toInt = 1 from rfl)
                  have hs2 := sw_ne hc2 (show (2 : Int32).toInt = 2 from rfl)
                  have hs3 := sw_ne hc3 (show (3 : Int32).toInt = 3 from rfl)
                  have hs4 := sw_ne hc4 (show (4 : Int32).toInt = 4 from rfl)
                  have hs5 := sw_ne hc5 (show (5 : Int32).toInt = 5 from rfl)
                  have hs6 := sw_ne hc6 (show (6 : Int32).toInt = 6 from rfl)
                  have hs7 := sw_ne hc7 (show (7 : Int32).toInt = 7 from rfl)
                  refine lv_tableOut (tgt := 115) hx hb dX3_count_1 (by omega) (by decide) ?_
                  refine lv_aload_n hx hb dX3_count_115 rfl (lv_at hl 0 rfl) ?_
                  refine lv_iload_n hx hb dX3_count_116 rfl (lv_at hl 1 rfl) ?_
                  obtain ⟨x3, hcl, hf⟩ := wp_b hf
                  refine k_Vi0 F hK hH hA hl.1 ⟨Nat.zero_le _, Nat.zero_le _⟩ [.int v1] [] (ctX3_refusalsOf ad yn ym yk yl yt yd yu ye yv yo y0 y1 yc yh v1 hcl) (cwV 1 hts gX3_count_X3_refusalsOf rfl rfl rfl hdVX3_refusalsOf ⟨Nat.le_of_ble_eq_true rfl, Nat.le_of_ble_eq_true rfl⟩) dX3_count_117 0 rfl rfl rfl rfl rfl (Nat.le_of_ble_eq_true rfl) rfl (fun H locs hH => ?_)
                  have hH : Hs D A s.heap (wMn cI cJ cQ ad yn ym yk yl yt yd yu ye yv yo y0 y1 yc yh) H locs := hH
                  have hrs := wp_s hf
                  subst hrs
                  exact RET H locs ls 120 dX3_count_120 rfl hH

