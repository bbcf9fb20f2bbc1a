def bX3_drive_56 (v1 : Int32) (v2 : Int32) : (Int32 × Int32 × Int32 × LandT) → Option ((Int32 × Int32 × Int32 × LandT) ⊕ (Int32 × LandT)) := fun ((t6, t7, t8, t9) : Int32 × Int32 × Int32 × LandT) =>
  if (16 : Int32) ≤ t8 then
    some (.inr (t6, t9))
  else
    if ob v1 7 then none else
    Option.bind (fX0_branchesWith v2 (gH t9, gR t9, gK t9, gF t9, upd (gP t9) (Int32.toNatClampNeg v1) t8, gV t9, gQ t9, gN t9, gD t9, gE t9, gT t9)) fun x12 =>
    Option.bind (fJ6_bitCount_0f7a4 x12) fun x13 =>
    if x13 ≤ t7 then
      some (.inl (t6, t7, t8 + 1, (gH t9, gR t9, gK t9, gF t9, upd (gP t9) (Int32.toNatClampNeg v1) t8, gV t9, gQ t9, gN t9, gD t9, gE t9, gT t9)))
    else
      some (.inl (t8, x13, t8 + 1, (gH t9, gR t9, gK t9, gF t9, upd (gP t9) (Int32.toNatClampNeg v1) t8, gV t9, gQ t9, gN t9, gD t9, gE t9, gT t9)))

def fX3_drive (v1 : Int32) (v2 : Int32) (yn : LandT) (ym : LandT) (ye : (Nat → Int32)) : Option (Int32 × LandT × (Nat → Int32)) :=
  Option.bind (fX0_hasThing v1 yn) fun x1 =>
  if x1 = 0 then
    Option.bind (fX3_refuse (-1) ye) fun x15 =>
    some (x15.1, ym, x15.2)
  else
    Option.bind (fX3_isVerdict v2) fun x2 =>
    if x2 = 0 then
      Option.bind (fX3_refuse (-2) ye) fun x14 =>
      some (x14.1, ym, x14.2)
    else
      Option.bind (fX0_branchesWith v2 yn) fun x3 =>
      Option.bind (fJ6_bitCount_0f7a4 x3) fun x4 =>
      Option.bind (fX3_inMind yn ym) fun x5 =>
      Option.bind (lp (bX3_drive_56 v1 v2) fu ((-9), x4, 0, x5)) fun ((t10, t11) : Int32 × LandT) =>
      some (t10, t11, ye)

def rmX3_drive : Room := { frames := 5, cells := 0, slots := 0, locals := 112 }
theorem mbX3_drive_f10 : Cond.fieldLink RX3 10 (TX3 0).1 (TX3 0).2.1 (TX3 0).2.2.1 ∈ wsX3_drive := by decide +kernel
theorem inX3_drive_X3 : ∀ w ∈ wsX30, w ∈ wsX3_drive := by decide +kernel
theorem mbX3_drive_f98 : Cond.fieldLink RX3 98 (TX0 4).1 (TX0 4).2.1 (TX0 4).2.2.1 ∈ wsX3_drive := by decide +kernel
theorem inX3_drive_X0 : ∀ w ∈ wsX00, w ∈ wsX3_drive := by decide +kernel
theorem hdVX3_drive : yX3_drive.cls = RX3 ∧ yX3_drive.cls ≠ "java/lang/invoke/MethodHandle" ∧ yX3_drive.cls ≠ "java/lang/invoke/VarHandle" ∧ (parseMethodDescriptor yX3_drive.desc).map (fun d => d.parameters.length) = some 2 := by decide +kernel
set_option maxHeartbeats 4000000 in
set_option maxRecDepth 100000 in
theorem ctX3_drive {l : Launch} {D : va_G} {cI cJ cQ : ClassId} (ad : Nat → Nat) (yn : LandT) (ym : LandT) (yk : LandT) (yl : (Nat → Int32)) (yt : Int32) (yd : Int32) (yu : (Nat → Int32)) (ye : (Nat → Int32)) (yv : (Nat → Int32)) (yo : (Nat → Int64)) (y0 : (Nat → Int32)) (y1 : (Nat → Int32)) (yc : Int32) (yh : Int32) (v1 : Int32) (v2 : Int32) {res : Int32 × LandT × (Nat → Int32)} (h : fX3_drive v1 v2 yn ym ye = some res) : CtI l D cI cJ cQ yX3_drive wsX3_drive rmX3_drive [.ref (ad 0), .int v1, .int v2] (wMn cI cJ cQ ad yn ym yk yl yt yd yu ye yv yo y0 y1 yc yh) res.1 (wMn cI cJ cQ ad yn res.2.1 yk yl yt yd yu res.2.2 yv yo y0 y1 yc yh) := by
  refine ctI_of .int (cc := cX3_drive) (maxL := 8) (by decide) rfl (Nat.le_of_ble_eq_true rfl) ?_
  intro p e s m args below meth c A Q ls F hK hA RET hH hl
  obtain ⟨hx, hb, hml, hown, hts⟩ := id F
  have hl : lv_has ls 8 [(0, .ref (ad 0)), (1, .int v1), (2, .int v2)] := hl
  have hf : wpO (fX3_drive v1 v2 yn ym ye) (fun v => v = res) := ⟨_, h, rfl⟩
  obtain ⟨H, eH⟩ : ∃ H, H = s.heap := ⟨_, rfl⟩
  obtain ⟨locs, eL⟩ : ∃ locs : List Loc, locs = [] := ⟨_, rfl⟩
  have hH : Hs D A s.heap (wMn cI cJ cQ ad yn ym yk yl yt yd yu ye yv yo y0 y1 yc yh) H locs := by rw [eH, eL]; exact hH
  rw [← eL]
  suffices hgo : W p l e rmX3_drive s m args below meth c H locs 0 0 Q (F0 m 0 ls []) by rw [eH] at hgo; exact hgo
  clear eH eL
  refine lv_aload_n hx hb dX3_drive_0 rfl (lv_at hl 0 rfl) ?_
  refine k_get (v := .ref (ad 1)) F hK hH 0 inX3_drive_X3 0 mbX3_drive_f10 dX3_drive_1 rfl rfl (by decide) rfl ?_
  refine lv_iload_n hx hb dX3_drive_4 rfl (lv_at hl 1 rfl) ?_
  obtain ⟨x1, hcl, hf⟩ := wp_b hf
  refine k_Vi F hK hH hA hl.1 ⟨Nat.zero_le _, Nat.zero_le _⟩ [1, 2, 3, 4, 5, 6, 7, 8] [.int v1] [] (ctX0_hasThing (fun k => ad (1 + k)) yn v1 hcl) (cwV 1 hts gX3_drive_X0_hasThing rfl rfl rfl hdVX0_hasThing ⟨Nat.le_of_ble_eq_true rfl, Nat.le_of_ble_eq_true rfl⟩) dX3_drive_5 1 rfl rfl rfl rfl rfl (Nat.le_of_ble_eq_true rfl) rfl rfl (by decide) (fun H locs hH => ?_)
  have hH : Hs D A s.heap (wMn cI cJ cQ ad yn ym yk yl yt yd yu ye yv yo y0 y1 yc yh) H locs := hH
  refine lv_if_ne (tgt := 17) hx hb dX3_drive_8 (by decide) (fun hc => ?_) (fun hc => ?_)
  · have hf := wp_f hc hf
    refine lv_iload_n hx hb dX3_drive_17 rfl (lv_at hl 2 rfl) ?_
    obtain ⟨x2, hcl, hf⟩ := wp_b hf
    refine k_Si F hK hH hA hl.1 ⟨Nat.zero_le _, Nat.zero_le _⟩ [] [.int v2] [] (ctX3_isVerdict v2 hcl) (va_cwS 1 hts gX3_drive_X3_isVerdict rfl rfl rfl hdSX3_isVerdict ⟨Nat.le_of_ble_eq_true rfl, Nat.le_of_ble_eq_true rfl⟩) dX3_drive_18 rfl rfl (Nat.le_of_ble_eq_true rfl) rfl rfl (by decide) (fun H locs hH => ?_)
    have hH : Hs D A s.heap (wMn cI cJ cQ ad yn ym yk yl yt yd yu ye yv yo y0 y1 yc yh) H locs := hH
    refine lv_if_ne (tgt := 31) hx hb dX3_drive_21 (by decide) (fun hc => ?_) (fun hc => ?_)
    · have hf := wp_f hc hf
      refine lv_bipush (v := (-9)) hx hb dX3_drive_31 (by decide) ?_
      refine lv_istore_n (lv' := [(3, .int (-9)), (0, .ref (ad 0)), (1, .int v1), (2, .int v2)]) hx hb dX3_drive_33 rfl hl (by decide) rfl (fun ls hl => ?_)
      refine lv_aload_n hx hb dX3_drive_34 rfl (lv_at hl 1 rfl) ?_
      refine k_get (v := .ref (ad 1)) F hK hH 0 inX3_drive_X3 0 mbX3_drive_f10 dX3_drive_35 rfl rfl (by decide) rfl ?_
      refine lv_iload_n hx hb dX3_drive_38 rfl (lv_at hl 3 rfl) ?_
      obtain ⟨x3, hcl, hf⟩ := wp_b hf
      refine k_Vi F hK hH hA hl.1 ⟨Nat.zero_le _, Nat.zero_le _⟩ [1, 2, 3, 4, 5, 6, 7, 8] [.int v2] [] (ctX0_branchesWith (fun k => ad (1 + k)) yn v2 hcl) (cwV 1 hts gX3_drive_X0_branchesWith rfl rfl rfl hdVX0_branchesWith ⟨Nat.le_of_ble_eq_true rfl, Nat.le_of_ble_eq_true rfl⟩) dX3_drive_39 1 rfl rfl rfl rfl rfl (Nat.le_of_ble_eq_true rfl) rfl rfl (by decide) (fun H locs hH => ?_)
      have hH : Hs D A s.heap (wMn cI cJ cQ ad yn ym yk yl yt yd yu ye yv yo y0 y1 yc yh) H locs := hH
      obtain ⟨x4, hcl, hf⟩ := wp_b hf
      refine k_Si F hK hH hA hl.1 ⟨Nat.zero_le _, Nat.zero_le _⟩ [] [.int x3] [] (ctJ6_bitCount_0f7a4 x3 hcl) (va_cwS 1 hts gX3_drive_J6_bitCount_0f7a4 rfl rfl rfl hdSJ6_bitCount_0f7a4 ⟨Nat.le_of_ble_eq_true rfl, Nat.le_of_ble_eq_true rfl⟩) dX3_drive_42 rfl rfl (Nat.le_of_ble_eq_true rfl) rfl rfl (by decide) (fun H locs hH => ?_)
      have hH : Hs D A s.heap (wMn cI cJ cQ ad yn ym yk yl yt yd yu ye yv yo y0 y1 yc yh) H locs := hH
      refine lv_istore (lv' := [(4, .int x4), (3, .int (-9)), (0, .ref (ad 0)), (1, .int v1), (2, .int v2)]) hx hb dX3_drive_45 hl (by decide) rfl (fun ls hl => ?_)
      refine lv_aload_n hx hb dX3_drive_47 rfl (lv_at hl 2 rfl) ?_
      obtain ⟨x5, hcl, hf⟩ := wp_b hf
      refine k_Vr0 F hK hH hA hl.1 ⟨Nat.zero_le _, Nat.zero_le _⟩ [] [] (ctX3_inMind ad yn ym yk yl yt yd yu ye yv yo y0 y1 yc yh hcl) (cwV 0 hts gX3_drive_X3_inMind rfl rfl rfl hdVX3_inMind ⟨Nat.le_of_ble_eq_true rfl, Nat.le_of_ble_eq_true rfl⟩) dX3_drive_48 0 rfl rfl rfl rfl rfl (Nat.le_of_ble_eq_true rfl) rfl (fun H locs hH => ?_)
      have hH : Hs D A s.heap (wMn cI cJ cQ ad yn x5 yk yl yt yd yu ye yv yo y0 y1 yc yh) H locs := hH
      refine W.eq (g2 := F0 m 51 ls [.ref (ad 9)]) rfl ?_
      refine lv_astore (lv' := [(5, .ref (ad 9)), (4, .int x4), (3, .int (-9)), (0, .ref (ad 0)), (1, .int v1), (2, .int v2)]) hx hb dX3_drive_51 hl (by decide) rfl (fun ls hl => ?_)
      refine lv_iconst (v := 0) hx hb dX3_drive_53 (by decide) ?_
      refine lv_istore (lv' := [(6, .int 0), (5, .ref (ad 9)), (4, .int x4), (3, .int (-9)), (0, .ref (ad 0)), (1, .int v1), (2, .int v2)]) hx hb dX3_drive_54 hl (by decide) rfl (fun ls hl => ?_)
      have LP : ∀ (Φ : (Int32 × LandT) → Prop), (∀ (t10 : Int32) (t11 : LandT) (H : Heap) (locs : List Loc) (ls : Array Slot), Φ ((t10, t11)) → Hs D A s.heap (wMn cI cJ cQ ad yn t11 yk yl yt yd yu ye yv yo y0 y1 yc yh) H locs → lv_has ls 8 [(3, .int t10)] → W p l e rmX3_drive s m args below meth c H locs 0 0 Q (F0 m 103 ls [])) → ∀ (n : Nat) (t6 : Int32) (t7 : Int32) (t8 : Int32) (t9 : LandT) (H : Heap) (locs : List Loc) (ls : Array Slot), wpO (lp (bX3_drive_56 v1 v2) n (t6, t7, t8, t9)) Φ → Hs D A s.heap (wMn cI cJ cQ ad yn t9 yk yl yt yd yu ye yv yo y0 y1 yc yh) H locs → lv_has ls 8 [(1, .int v1), (2, .int v2), (3, .int t6), (4, .int t7), (5, .ref (ad 9)), (6, .int t8)] → W p l e rmX3_drive s m args below meth c H locs 0 0 Q (F0 m 56 ls []) := by
        intro Φ EX n
        induction n with
        | zero =>
          intro t6 t7 t8 t9 H locs ls hf hH hl
          exact (wp_l0 hf).elim
        | succ n ih =>
          intro t6 t7 t8 t9 H locs ls hf hH hl
          have hf := wp_l hf
          refine lv_iload hx hb dX3_drive_56 (lv_at hl 5 rfl) ?_
          refine lv_bipush (v := 16) hx hb dX3_drive_58 (by decide) ?_
          refine lv_icmp_ge (tgt := 103) hx hb dX3_drive_60 (by decide) (fun hc => ?_) (fun hc => ?_)
          · have hf := wp_t hc hf
            have hw := wp_out hf
            exact EX _ _ _ _ _ hw hH (lv_sub hl [2] rfl)
          · have hf := wp_f hc hf
            refine lv_aload hx hb dX3_drive_63 (lv_at hl 4 rfl) ?_
            refine k_get (v := .ref (ad 14)) F hK hH 9 inX3_drive_X0 4 mbX3_drive_f98 dX3_drive_65 rfl rfl (by decide) rfl ?_
            refine lv_iload_n hx hb dX3_drive_68 rfl (lv_at hl 0 rfl) ?_
            refine lv_iload hx hb dX3_drive_69 (lv_at hl 5 rfl) ?_
            obtain ⟨hi, hf⟩ := wp_n hf
            refine k_iast (f := gP t9) (n := 7) F hK hH 14 dX3_drive_71 hi rfl (fun H locs hH => ?_)
            have hH : Hs D A s.heap (wMn cI cJ cQ ad yn (gH t9, gR t9, gK t9, gF t9, upd (gP t9) (Int32.toNatClampNeg v1) t8, gV t9, gQ t9, gN t9, gD t9, gE t9, gT t9) yk yl yt yd yu ye yv yo y0 y1 yc yh) H locs := hH
            refine lv_aload hx hb dX3_drive_72 (lv_at hl 4 rfl) ?_
            refine lv_iload_n hx hb dX3_drive_74 rfl (lv_at hl 1 rfl) ?_
            obtain ⟨x12, hcl, hf⟩ := wp_b hf
            refine k_Vi F hK hH hA hl.1 ⟨Nat.zero_le _, Nat.zero_le _⟩ [9, 10, 11, 12, 13, 14, 15, 16] [.int v2] [] (ctX0_branchesWith (fun k => ad (9 + k)) (gH t9, gR t9, gK t9, gF t9, upd (gP t9) (Int32.toNatClampNeg v1) t8, gV t9, gQ t9, gN t9, gD t9, gE t9, gT t9) v2 hcl) (cwV 1 hts gX3_drive_X0_branchesWith rfl rfl rfl hdVX0_branchesWith ⟨Nat.le_of_ble_eq_true rfl, Nat.le_of_ble_eq_true rfl⟩) dX3_drive_75 9 rfl rfl rfl rfl rfl (Nat.le_of_ble_eq_true rfl) rfl rfl (by decide) (fun H locs hH => ?_)
            have hH : Hs D A s.heap (wMn cI cJ cQ ad yn (gH t9, gR t9, gK t9, gF t9, upd (gP t9) (Int32.toNatClampNeg v1) t8, gV t9, gQ t9, gN t9, gD t9, gE t9, gT t9) yk yl yt yd yu ye yv yo y0 y1 yc yh) H locs := hH
            obtain ⟨x13, hcl, hf⟩ := wp_b hf
            refine k_Si F hK hH hA hl.1 ⟨Nat.zero_le _, Nat.zero_le _⟩ [] [.int x12] [] (ctJ6_bitCount_0f7a4 x12 hcl) (va_cwS 1 hts gX3_drive_J6_bitCount_0f7a4 rfl rfl rfl hdSJ6_bitCount_0f7a4 ⟨Nat.le_of_ble_eq_true rfl, Nat.le_of_ble_eq_true rfl⟩) dX3_drive_78 rfl rfl (Nat.le_of_ble_eq_true rfl) rfl rfl (by decide) (fun H locs hH => ?_)
            have hH : Hs D A s.heap (wMn cI cJ cQ ad yn (gH t9, gR t9, gK t9, gF t9, upd (gP t9) (Int32.toNatClampNeg v1) t8, gV t9, gQ t9, gN t9, gD t9, gE t9, gT t9) yk yl yt yd yu ye yv yo y0 y1 yc yh) H locs := hH
            refine lv_istore (lv' := [(7, .int x13), (1, .int v1), (2, .int v2), (3, .int t6), (4, .int t7), (5, .ref (ad 9)), (6, .int t8)]) hx hb dX3_drive_81 hl (by decide) rfl (fun ls hl => ?_)
            refine lv_iload hx hb dX3_drive_83 (lv_at hl 0 rfl) ?_
            refine lv_iload hx hb dX3_drive_85 (lv_at hl 4 rfl) ?_
            refine lv_icmp_le (tgt := 97) hx hb dX3_drive_87 (by decide) (fun hc => ?_) (fun hc => ?_)
            · have hf := wp_t hc hf
              refine lv_iinc (v := t8 + 1) (lv' := [(6, .int (t8 + 1)), (7, .int x13), (1, .int v1), (2, .int v2), (3, .int t6), (4, .int t7), (5, .ref (ad 9))]) hx hb dX3_drive_97 hl (k := 6) rfl rfl (by decide) rfl (fun ls hl => ?_)
              refine lv_goto (tgt := 56) hx hb dX3_drive_100 (by decide) ?_
              have hw := wp_in hf
              exact ih _ _ _ _ _ _ _ hw hH (lv_sub hl [2, 3, 4, 5, 6, 0] rfl)
            · have hf := wp_f hc hf
              refine lv_iload hx hb dX3_drive_90 (lv_at hl 0 rfl) ?_
              refine lv_istore (lv' := [(4, .int x13), (7, .int x13), (1, .int v1), (2, .int v2), (3, .int t6), (5, .ref (ad 9)), (6, .int t8)]) hx hb dX3_drive_92 hl (by decide) rfl (fun ls hl => ?_)
              refine lv_iload hx hb dX3_drive_94 (lv_at hl 6 rfl) ?_
              refine lv_istore_n (lv' := [(3, .int t8), (4, .int x13), (7, .int x13), (1, .int v1), (2, .int v2), (5, .ref (ad 9)), (6, .int t8)]) hx hb dX3_drive_96 rfl hl (by decide) rfl (fun ls hl => ?_)
              refine lv_iinc (v := t8 + 1) (lv' := [(6, .int (t8 + 1)), (3, .int t8), (4, .int x13), (7, .int x13), (1, .int v1), (2, .int v2), (5, .ref (ad 9))]) hx hb dX3_drive_97 hl (k := 6) rfl rfl (by decide) rfl (fun ls hl => ?_)
              refine lv_goto (tgt := 56) hx hb dX3_drive_100 (by decide) ?_
              have hw := wp_in hf
              exact ih _ _ _ _ _ _ _ hw hH (lv_sub hl [4, 5, 1, 2, 6, 0] rfl)
      refine LP _ (fun t10 t11 H locs ls hf hH hl => ?_) fu _ _ _ _ _ _ _ (wp_bb hf) hH (lv_sub hl [5, 6, 3, 2, 1, 0] rfl)
      refine lv_iload_n hx hb dX3_drive_103 rfl (lv_at hl 0 rfl) ?_
      have hrs := wp_s hf
      subst hrs
      exact RET H locs ls 104 dX3_drive_104 rfl hH
    · have hf := wp_t hc hf
      refine lv_aload_n hx hb dX3_drive_24 rfl (lv_at hl 0 rfl) ?_
      refine lv_bipush (v := (-2)) hx hb dX3_drive_25 (by decide) ?_
      obtain ⟨x14, hcl, hf⟩ := wp_b hf
      refine k_Vi0 F hK hH hA hl.1 ⟨Nat.zero_le _, Nat.zero_le _⟩ [.int (-2)] [] (ctX3_refuse ad yn ym yk yl yt yd yu ye yv yo y0 y1 yc yh (-2) hcl) (cwV 1 hts gX3_drive_X3_refuse rfl rfl rfl hdVX3_refuse ⟨Nat.le_of_ble_eq_true rfl, Nat.le_of_ble_eq_true rfl⟩) dX3_drive_27 0 rfl rfl rfl rfl rfl (Nat.le_of_ble_eq_true rfl) rfl (fun H locs hH => ?_)
      have hH : Hs D A s.heap (wMn cI cJ cQ ad yn ym yk yl yt yd yu x14.2 yv yo y0 y1 yc yh) H locs := hH
      refine W.eq (g2 := F0 m 30 ls [.int x14.1]) rfl ?_
      have hrs := wp_s hf
      subst hrs
      exact RET H locs ls 30 dX3_drive_30 rfl hH
  · have hf := wp_t hc hf
    refine lv_aload_n hx hb dX3_drive_11 rfl (lv_at hl 0 rfl) ?_
    refine lv_iconst (v := (-1)) hx hb dX3_drive_12 (by decide) ?_
    obtain ⟨x15, hcl, hf⟩ := wp_b hf
    refine k_Vi0 F hK hH hA hl.1 ⟨Nat.zero_le _, Nat.zero_le _⟩ [.int (-1)] [] (ctX3_refuse ad yn ym yk yl yt yd yu ye yv yo y0 y1 yc yh (-1) hcl) (cwV 1 hts gX3_drive_X3_refuse rfl rfl rfl hdVX3_refuse ⟨Nat.le_of_ble_eq_true rfl, Nat.le_of_ble_eq_true rfl⟩) dX3_drive_13 0 rfl rfl rfl rfl rfl (Nat.le_of_ble_eq_true rfl) rfl (fun H locs hH => ?_)
    have hH : Hs D A s.heap (wMn cI cJ cQ ad yn ym yk yl yt yd yu x15.2 yv yo y0 y1 yc yh) H locs := hH
    refine W.eq (g2 := F0 m 16 ls [.int x15.1]) rfl ?_
    have hrs := wp_s hf
    subst hrs
    exact RET H locs ls 16 dX3_drive_16 rfl hH

def fX3_manySeenWith (v1 : Int32) (v2 : Int32) (v3 : Int32) (yn : LandT) (ym : LandT) : Option (Int32 × LandT) :=
  Option.bind (fX3_inMind yn ym) fun x1 =>
  Option.bind (fX0_setHeight v1 v2 x1) fun x2 =>
  Option.bind (fX0_sightFrom v3 x2) fun x3 =>
  Option.bind (fJ6_bitCount_0f7a4 x3) fun x4 =>
  some (x4, x2)

def rmX3_manySeenWith : Room := { frames := 4, cells := 0, slots := 0, locals := 101 }
theorem hdVX3_manySeenWith : yX3_manySeenWith.cls = RX3 ∧ yX3_manySeenWith.cls ≠ "java/lang/invoke/MethodHandle" ∧ yX3_manySeenWith.cls ≠ "java/lang/invoke/VarHandle" ∧ (parseMethodDescriptor yX3_manySeenWith.desc).map (fun d => d.parameters.length) = some 3 := by decide +kernel
set_option maxHeartbeats 4000000 in
set_option maxRecDepth 100000 in
theorem ctX3_manySeenWith {l : Launch} {D : va_G} {cI cJ cQ : ClassId} (ad : Nat → Nat) (yn : LandT) (ym : LandT) (yk : LandT) (yl : (Nat → Int32)) (yt : Int32) (yd : Int32) (yu : (Nat → Int32)) (ye : (Nat → Int32)) (yv : (Nat → Int32)) (yo : (Nat → Int64)) (y0 : (Nat → Int32)) (y1 : (Nat → Int32)) (yc : Int32) (yh : Int32) (v1 : Int32) (v2 : Int32) (v3 : Int32) {res : Int32 × LandT} (h : fX3_manySeenWith v1 v2 v3 yn ym = some res) : CtI l D cI cJ cQ yX3_manySeenWith wsX3_manySeenWith rmX3_manySeenWith [.ref (ad 0), .int v1, .int v2, .int v3] (wMn cI cJ cQ ad yn ym yk yl yt yd yu ye yv yo y0 y1 yc yh) res.1 (wMn cI cJ cQ ad yn res.2 yk yl yt yd yu ye yv yo y0 y1 yc yh) := by
  refine ctI_of .int (cc := cX3_manySeenWith) (maxL := 5) (by decide) rfl (Nat.le_of_ble_eq_true rfl) ?_
  intro p e s m args below meth c A Q ls F hK hA RET hH hl
  obtain ⟨hx, hb, hml, hown, hts⟩ := id F
  have hl : lv_has ls 5 [(0, .ref (ad 0)), (1, .int v1), (2, .int v2), (3, .int v3)] := hl
  have hf : wpO (fX3_manySeenWith v1 v2 v3 yn ym) (fun v => v = res) := ⟨_, h, rfl⟩
  obtain ⟨H, eH⟩ : ∃ H, H = s.heap := ⟨_, rfl⟩
  obtain ⟨locs, eL⟩ : ∃ locs : List Loc, locs = [] := ⟨_, rfl⟩
  have hH : Hs D A s.heap (wMn cI cJ cQ ad yn ym yk yl yt yd yu ye yv yo y0 y1 yc yh) H locs := by rw [eH, eL]; exact hH
  rw [← eL]
  suffices hgo : W p l e rmX3_manySeenWith s m args below meth c H locs 0 0 Q (F0 m 0 ls []) by rw [eH] at hgo; exact hgo
  clear eH eL
  refine lv_aload_n hx hb dX3_manySeenWith_0 rfl (lv_at hl 0 rfl) ?_
  obtain ⟨x1, hcl, hf⟩ := wp_b hf
  refine k_Vr0 F hK hH hA hl.1 ⟨Nat.zero_le _, Nat.zero_le _⟩ [] [] (ctX3_inMind ad yn ym yk yl yt yd yu ye yv yo y0 y1 yc yh hcl) (cwV 0 hts gX3_manySeenWith_X3_inMind rfl rfl rfl hdVX3_inMind ⟨Nat.le_of_ble_eq_true rfl, Nat.le_of_ble_eq_true rfl⟩) dX3_manySeenWith_1 0 rfl rfl rfl rfl rfl (Nat.le_of_ble_eq_true rfl) rfl (fun H locs hH => ?_)
  have hH : Hs D A s.heap (wMn cI cJ cQ ad yn x1 yk yl yt yd yu ye yv yo y0 y1 yc yh) H locs := hH
  refine W.eq (g2 := F0 m 4 ls [.ref (ad 9)]) rfl ?_
  refine lv_astore (lv' := [(4, .ref (ad 9)), (0, .ref (ad 0)), (1, .int v1), (2, .int v2), (3, .int v3)]) hx hb dX3_manySeenWith_4 hl (by decide) rfl (fun ls hl => ?_)
  refine lv_aload hx hb dX3_manySeenWith_6 (lv_at hl 0 rfl) ?_
  refine lv_iload_n hx hb dX3_manySeenWith_8 rfl (lv_at hl 2 rfl) ?_
  refine lv_iload_n hx hb dX3_manySeenWith_9 rfl (lv_at hl 3 rfl) ?_
  obtain ⟨x2, hcl, hf⟩ := wp_b hf
  refine k_Vv F hK hH hA hl.1 ⟨Nat.zero_le _, Nat.zero_le _⟩ [9, 10, 11, 12, 13, 14, 15, 16] [.int v1, .int v2] [] (ctX0_setHeight (fun k => ad (9 + k)) x1 v1 v2 hcl) (cwV 2 hts gX3_manySeenWith_X0_setHeight rfl rfl rfl hdVX0_setHeight ⟨Nat.le_of_ble_eq_true rfl, Nat.le_of_ble_eq_true rfl⟩) dX3_manySeenWith_10 9 rfl rfl rfl rfl rfl (Nat.le_of_ble_eq_true rfl) rfl rfl (by decide) (fun H locs hH => ?_)
  have hH : Hs D A s.heap (wMn cI cJ cQ ad yn x2 yk yl yt yd yu ye yv yo y0 y1 yc yh) H locs := hH
  refine lv_aload hx hb dX3_manySeenWith_13 (lv_at hl 0 rfl) ?_
  refine lv_iload_n hx hb dX3_manySeenWith_15 rfl (lv_at hl 4 rfl) ?_
  obtain ⟨x3, hcl, hf⟩ := wp_b hf
  refine k_Vi F hK hH hA hl.1 ⟨Nat.zero_le _, Nat.zero_le _⟩ [9, 10, 11, 12, 13, 14, 15, 16] [.int v3] [] (ctX0_sightFrom (fun k => ad (9 + k)) x2 v3 hcl) (cwV 1 hts gX3_manySeenWith_X0_sightFrom rfl rfl rfl hdVX0_sightFrom ⟨Nat.le_of_ble_eq_true rfl, Nat.le_of_ble_eq_true rfl⟩) dX3_manySeenWith_16 9 rfl rfl rfl rfl rfl (Nat.le_of_ble_eq_true rfl) rfl rfl (by decide) (fun H locs hH => ?_)
  have hH : Hs D A s.heap (wMn cI cJ cQ ad yn x2 yk yl yt yd yu ye yv yo y0 y1 yc yh) H locs := hH
  obtain ⟨x4, hcl, hf⟩ := wp_b hf
  refine k_Si F hK hH hA hl.1 ⟨Nat.zero_le _, Nat.zero_le _⟩ [] [.int x3] [] (ctJ6_bitCount_0f7a4 x3 hcl) (va_cwS 1 hts gX3_manySeenWith_J6_bitCount_0f7a4 rfl rfl rfl hdSJ6_bitCount_0f7a4 ⟨Nat.le_of_ble_eq_true rfl, Nat.le_of_ble_eq_true rfl⟩) dX3_manySeenWith_19 rfl rfl (Nat.le_of_ble_eq_true rfl) rfl rfl (by decide) (fun H locs hH => ?_)
  have hH : Hs D A s.heap (wMn cI cJ cQ ad yn x2 yk yl yt yd yu ye yv yo y0 y1 yc yh) H locs := hH
  have hrs := wp_s hf
  subst hrs
  exact RET H locs ls 22 dX3_manySeenWith_22 rfl hH

def bX3_cellToLevel_18 (v1 : Int32) (yn : LandT) : (Int32 × Int32 × Int32 × LandT) → Option ((Int32 × Int32 × Int32 × LandT) ⊕ (Int32 × LandT)) := fun ((t3, t4, t5, t6) : Int32 × Int32 × Int32 × LandT) =>
  if (16 : Int32) ≤ t5 then
    some (.inr (t3, t6))
  else
    Option.bind (fX3_manySeenWith t5 0 v1 yn t6) fun x9 =>
    if x9.1 ≤ t4 then
      some (.inl (t3, t4, t5 + 1, x9.2))
    else
      some (.inl (t5, x9.1, t5 + 1, x9.2))

def fX3_cellToLevel (v1 : Int32) (yn : LandT) (ym : LandT) : Option (Int32 × LandT) :=
  Option.bind (fX0_sightFrom v1 yn) fun x1 =>
  Option.bind (fJ6_bitCount_0f7a4 x1) fun x2 =>
  Option.bind (lp (bX3_cellToLevel_18 v1 yn) fu ((-9), x2, 0, ym)) fun ((t7, t8) : Int32 × LandT) =>
  some (t7, t8)

def rmX3_cellToLevel : Room := { frames := 5, cells := 0, slots := 0, locals := 125 }
theorem mbX3_cellToLevel_f10 : Cond.fieldLink RX3 10 (TX3 0).1 (TX3 0).2.1 (TX3 0).2.2.1 ∈ wsX3_cellToLevel := by decide +kernel
theorem inX3_cellToLevel_X3 : ∀ w ∈ wsX30, w ∈ wsX3_cellToLevel := by decide +kernel
theorem hdVX3_cellToLevel : yX3_cellToLevel.cls = RX3 ∧ yX3_cellToLevel.cls ≠ "java/lang/invoke/MethodHandle" ∧ yX3_cellToLevel.cls ≠ "java/lang/invoke/VarHandle" ∧ (parseMethodDescriptor yX3_cellToLevel.desc).map (fun d => d.parameters.length) = some 1 := by decide +kernel
set_option maxHeartbeats 4000000 in
set_option maxRecDepth 100000 in
theorem ctX3_cellToLevel {l : Launch} {D : va_G} {cI cJ cQ : ClassId} (ad : Nat → Nat) (yn : LandT) (ym : LandT) (yk : LandT) (yl : (Nat → Int32)) (yt : Int32) (yd : Int32) (yu : (Nat → Int32)) (ye : (Nat → Int32)) (yv : (Nat → Int32)) (yo : (Nat → Int64)) (y0 : (Nat → Int32)) (y1 : (Nat → Int32)) (yc : Int32) (yh : Int32) (v1 : Int32) {res : Int32 × LandT} (h : fX3_cellToLevel v1 yn ym = some res) : CtI l D cI cJ cQ yX3_cellToLevel wsX3_cellToLevel rmX3_cellToLevel [.ref (ad 0), .int v1] (wMn cI cJ cQ ad yn ym yk yl yt yd yu ye yv yo y0 y1 yc yh) res.1 (wMn cI cJ cQ ad yn res.2 yk yl yt yd yu ye yv yo y0 y1 yc yh) := by
  refine ctI_of .int (cc := cX3_cellToLevel) (maxL := 6) (by decide) rfl (Nat.le_of_ble_eq_true rfl) ?_
  intro p e s m args below meth c A Q ls F hK hA RET hH hl
  obtain ⟨hx, hb, hml, hown, hts⟩ := id F
  have hl : lv_has ls 6 [(0, .ref (ad 0)), (1, .int v1)] := hl
  have hf : wpO (fX3_cellToLevel v1 yn ym) (fun v => v = res) := ⟨_, h, rfl⟩
  obtain ⟨H, eH⟩ : ∃ H, H = s.heap := ⟨_, rfl⟩
  obtain ⟨locs, eL⟩ : ∃ locs : List Loc, locs = [] := ⟨_, rfl⟩
  have hH : Hs D A s.heap (wMn cI cJ cQ ad yn ym yk yl yt yd yu ye yv yo y0 y1 yc yh) H locs := by rw [eH, eL]; exact hH
  rw [← eL]
  suffices hgo : W p l e rmX3_cellToLevel s m args below meth c H locs 0 0 Q (F0 m 0 ls []) by rw [eH] at hgo; exact hgo
  clear eH eL
  refine lv_bipush (v := (-9)) hx hb dX3_cellToLevel_0 (by decide) ?_
  refine lv_istore_n (lv' := [(2, .int (-9)), (0, .ref (ad 0)), (1, .int v1)]) hx hb dX3_cellToLevel_2 rfl hl (by decide) rfl (fun ls hl => ?_)
  refine lv_aload_n hx hb dX3_cellToLevel_3 rfl (lv_at hl 1 rfl) ?_
  refine k_get (v := .ref (ad 1)) F hK hH 0 inX3_cellToLevel_X3 0 mbX3_cellToLevel_f10 dX3_cellToLevel_4 rfl rfl (by decide) rfl ?_
  refine lv_iload_n hx hb dX3_cellToLevel_7 rfl (lv_at hl 2 rfl) ?_
  obtain ⟨x1, hcl, hf⟩ := wp_b hf
  refine k_Vi F hK hH hA hl.1 ⟨Nat.zero_le _, Nat.zero_le _⟩ [1, 2, 3, 4, 5, 6, 7, 8] [.int v1] [] (ctX0_sightFrom (fun k => ad (1 + k)) yn v1 hcl) (cwV 1 hts gX3_cellToLevel_X0_sightFrom rfl rfl rfl hdVX0_sightFrom ⟨Nat.le_of_ble_eq_true rfl, Nat.le_of_ble_eq_true rfl⟩) dX3_cellToLevel_8 1 rfl rfl rfl rfl rfl (Nat.le_of_ble_eq_true rfl) rfl rfl (by decide) (fun H locs hH => ?_)
  have hH : Hs D A s.heap (wMn cI cJ cQ ad yn ym yk yl yt yd yu ye yv yo y0 y1 yc yh) H locs := hH
  obtain ⟨x2, hcl, hf⟩ := wp_b hf
  refine k_Si F hK hH hA hl.1 ⟨Nat.zero_le _, Nat.zero_le _⟩ [] [.int x1] [] (ctJ6_bitCount_0f7a4 x1 hcl) (va_cwS 1 hts gX3_cellToLevel_J6_bitCount_0f7a4 rfl rfl rfl hdSJ6_bitCount_0f7a4 ⟨Nat.le_of_ble_eq_true rfl, Nat.le_of_ble_eq_true rfl⟩) dX3_cellToLevel_11 rfl rfl (Nat.le_of_ble_eq_true rfl) rfl rfl (by decide) (fun H locs hH => ?_)
  have hH : Hs D A s.heap (wMn cI cJ cQ ad yn ym yk yl yt yd yu ye yv yo y0 y1 yc yh) H locs := hH
  refine lv_istore_n (lv' := [(3, .int x2), (2, .int (-9)), (0, .ref (ad 0)), (1, .int v1)]) hx hb dX3_cellToLevel_14 rfl hl (by decide) rfl (fun ls hl => ?_)
  refine lv_iconst (v := 0) hx hb dX3_cellToLevel_15 (by decide) ?_
  refine lv_istore (lv' := [(4, .int 0), (3, .int x2), (2, .int (-9)), (0, .ref (ad 0)), (1, .int v1)]) hx hb dX3_cellToLevel_16 hl (by decide) rfl (fun ls hl => ?_)
  have LP : ∀ (Φ : (Int32 × LandT) → Prop), (∀ (t7 : Int32) (t8 : LandT) (H : Heap) (locs : List Loc) (ls : Array Slot), Φ ((t7, t8)) → Hs D A s.heap (wMn cI cJ cQ ad yn t8 yk yl yt yd yu ye yv yo y0 y1 yc yh) H locs → lv_has ls 6 [(2, .int t7)] → W p l e rmX3_cellToLevel s m args below meth c H locs 0 0 Q (F0 m 53 ls [])) → ∀ (n : Nat) (t3 : Int32) (t4 : Int32) (t5 : Int32) (t6 : LandT) (H : Heap) (locs : List Loc) (ls : Array Slot), wpO (lp (bX3_cellToLevel_18 v1 yn) n (t3, t4, t5, t6)) Φ → Hs D A s.heap (wMn cI cJ cQ ad yn t6 yk yl yt yd yu ye yv yo y0 y1 yc yh) H locs → lv_has ls 6 [(0, .ref (ad 0)), (1, .int v1), (2, .int t3), (3, .int t4), (4, .int t5)] → W p l e rmX3_cellToLevel s m args below meth c H locs 0 0 Q (F0 m 18 ls []) := by
    intro Φ EX n
    induction n with
    | zero =>
      intro t3 t4 t5 t6 H locs ls hf hH hl
      exact (wp_l0 hf).elim
    | succ n ih =>
      intro t3 t4 t5 t6 H locs ls hf hH hl
      have hf := wp_l hf
      refine lv_iload hx hb dX3_cellToLevel_18 (lv_at hl 4 rfl) ?_
      refine lv_bipush (v := 16) hx hb dX3_cellToLevel_20 (by decide) ?_
      refine lv_icmp_ge (tgt := 53) hx hb dX3_cellToLevel_22 (by decide) (fun hc => ?_) (fun hc => ?_)
      · have hf := wp_t hc hf
        have hw := wp_out hf
        exact EX _ _ _ _ _ hw hH (lv_sub hl [2] rfl)
      · have hf := wp_f hc hf
        refine lv_aload_n hx hb dX3_cellToLevel_25 rfl (lv_at hl 0 rfl) ?_
        refine lv_iload hx hb dX3_cellToLevel_26 (lv_at hl 4 rfl) ?_
        refine lv_iconst (v := 0) hx hb dX3_cellToLevel_28 (by decide) ?_
        refine lv_iload_n hx hb dX3_cellToLevel_29 rfl (lv_at hl 1 rfl) ?_
        obtain ⟨x9, hcl, hf⟩ := wp_b hf
        refine k_Vi0 F hK hH hA hl.1 ⟨Nat.zero_le _, Nat.zero_le _⟩ [.int t5, .int 0, .int v1] [] (ctX3_manySeenWith ad yn t6 yk yl yt yd yu ye yv yo y0 y1 yc yh t5 0 v1 hcl) (cwV 3 hts gX3_cellToLevel_X3_manySeenWith rfl rfl rfl hdVX3_manySeenWith ⟨Nat.le_of_ble_eq_true rfl, Nat.le_of_ble_eq_true rfl⟩) dX3_cellToLevel_30 0 rfl rfl rfl rfl rfl (Nat.le_of_ble_eq_true rfl) rfl (fun H locs hH => ?_)
        have hH : Hs D A s.heap (wMn cI cJ cQ ad yn x9.2 yk yl yt yd yu ye yv yo y0 y1 yc yh) H locs := hH
        refine W.eq (g2 := F0 m 33 ls [.int x9.1]) rfl ?_
        refine lv_istore (lv' := [(5, .int x9.1), (0, .ref (ad 0)), (1, .int v1), (2, .int t3), (3, .int t4), (4, .int t5)]) hx hb dX3_cellToLevel_33 hl (by decide) rfl (fun ls hl => ?_)
        refine lv_iload hx hb dX3_cellToLevel_35 (lv_at hl 0 rfl) ?_
        refine lv_iload_n hx hb dX3_cellToLevel_37 rfl (lv_at hl 4 rfl) ?_
        refine lv_icmp_le (tgt := 47) hx hb dX3_cellToLevel_38 (by decide) (fun hc => ?_) (fun hc => ?_)
        · have hf := wp_t hc hf
          refine lv_iinc (v := t5 + 1) (lv' := [(4, .int (t5 + 1)), (5, .int x9.1), (0, .ref (ad 0)), (1, .int v1), (2, .int t3), (3, .int t4)]) hx hb dX3_cellToLevel_47 hl (k := 5) rfl rfl (by decide) rfl (fun ls hl => ?_)
          refine lv_goto (tgt := 18) hx hb dX3_cellToLevel_50 (by decide) ?_
          have hw := wp_in hf
          exact ih _ _ _ _ _ _ _ hw hH (lv_sub hl [2, 3, 4, 5, 0] rfl)
        · have hf := wp_f hc hf
          refine lv_iload hx hb dX3_cellToLevel_41 (lv_at hl 0 rfl) ?_
          refine lv_istore_n (lv' := [(3, .int x9.1), (5, .int x9.1), (0, .ref (ad 0)), (1, .int v1), (2, .int t3), (4, .int t5)]) hx hb dX3_cellToLevel_43 rfl hl (by decide) rfl (fun ls hl => ?_)
          refine lv_iload hx hb dX3_cellToLevel_44 (lv_at hl 5 rfl) ?_
          refine lv_istore_n (lv' := [(2, .int t5), (3, .int x9.1), (5, .int x9.1), (0, .ref (ad 0)), (1, .int v1), (4, .int t5)]) hx hb dX3_cellToLevel_46 rfl hl (by decide) rfl (fun ls hl => ?_)
          refine lv_iinc (v := t5 + 1) (lv' := [(4, .int (t5 + 1)), (2, .int t5), (3, .int x9.1), (5, .int x9.1), (0, .ref (ad 0)), (1, .int v1)]) hx hb dX3_cellToLevel_47 hl (k := 5) rfl rfl (by decide) rfl (fun ls hl => ?_)
          refine lv_goto (tgt := 18) hx hb dX3_cellToLevel_50 (by decide) ?_
          have hw := wp_in hf
          exact ih _ _ _ _ _ _ _ hw hH (lv_sub hl [4, 5, 1, 2, 0] rfl)
  refine LP _ (fun t7 t8 H locs ls hf hH hl => ?_) fu _ _ _ _ _ _ _ (wp_bb hf) hH (lv_sub hl [3, 4, 2, 1, 0] rfl)
  refine lv_iload_n hx hb dX3_cellToLevel_53 rfl (lv_at hl 0 rfl) ?_
  have hrs := wp_s hf
  subst hrs
  exact RET H locs ls 54 dX3_cellToLevel_54 rfl hH

def bX3_cellToScreen_18 (v1 : Int32) (yn : LandT) : (Int32 × Int32 × Int32 × LandT) → Option ((Int32 × Int32 × Int32 × LandT) ⊕ (Int32 × LandT)) := fun ((t3, t4, t5, t6) : Int32 × Int32 × Int32 × LandT) =>
  if (16 : Int32) ≤ t5 then
    some (.inr (t3, t6))
  else
    Option.bind (fX3_manySeenWith t5 9 v1 yn t6) fun x9 =>
    if t4 ≤ x9.1 then
      some (.inl (t3, t4, t5 + 1, x9.2))
    else
      some (.inl (t5, x9.1, t5 + 1, x9.2))

def fX3_cellToScreen (v1 : Int32) (yn : LandT) (ym : LandT) : Option (Int32 × LandT) :=
  Option.bind (fX0_sightFrom v1 yn) fun x1 =>
  Option.bind (fJ6_bitCount_0f7a4 x1) fun x2 =>
  Option.bind (lp (bX3_cellToScreen_18 v1 yn) fu ((-9), x2, 0, ym)) fun ((t7, t8) : Int32 × LandT) =>
  some (t7, t8)

def rmX3_cellToScreen : Room := { frames := 5, cells := 0, slots := 0, locals := 125 }
theorem mbX3_cellToScreen_f10 : Cond.fieldLink RX3 10 (TX3 0).1 (TX3 0).2.1 (TX3 0).2.2.1 ∈ wsX3_cellToScreen := by decide +kernel
theorem inX3_cellToScreen_X3 : ∀ w ∈ wsX30, w ∈ wsX3_cellToScreen := by decide +kernel
theorem hdVX3_cellToScreen : yX3_cellToScreen.cls = RX3 ∧ yX3_cellToScreen.cls ≠ "java/lang/invoke/MethodHandle" ∧ yX3_cellToScreen.cls ≠ "java/lang/invoke/VarHandle" ∧ (parseMethodDescriptor yX3_cellToScreen.desc).map (fun d => d.parameters.length) = some 1 := by decide +kernel
set_option maxHeartbeats 4000000 in
set_option maxRecDepth 100000 in
theorem ctX3_cellToScreen {l : Launch} {D : va_G} {cI cJ cQ : ClassId} (ad : Nat → Nat) (yn : LandT) (ym : LandT) (yk : LandT) (yl : (Nat → Int32)) (yt : Int32) (yd : Int32) (yu : (Nat → Int32)) (ye : (Nat → Int32)) (yv : (Nat → Int32)) (yo : (Nat → Int64)) (y0 : (Nat → Int32)) (y1 : (Nat → Int32)) (yc : Int32) (yh : Int32) (v1 : Int32) {res : Int32 × LandT} (h : fX3_cellToScreen v1 yn ym = some res) : CtI l D cI cJ cQ yX3_cellToScreen wsX3_cellToScreen rmX3_cellToScreen [.ref (ad 0), .int v1] (wMn cI cJ cQ ad yn ym yk yl yt yd yu ye yv yo y0 y1 yc yh) res.1 (wMn cI cJ cQ ad yn res.2 yk yl yt yd yu ye yv yo y0 y1 yc yh) := by
  refine ctI_of .int (cc := cX3_cellToScreen) (maxL := 6) (by decide) rfl (Nat.le_of_ble_eq_true rfl) ?_
  intro p e s m args below meth c A Q ls F hK hA RET hH hl
  obtain ⟨hx, hb, hml, hown, hts⟩ := id F
  have hl : lv_has ls 6 [(0, .ref (ad 0)), (1, .int v1)] := hl
  have hf : wpO (fX3_cellToScreen v1 yn ym) (fun v => v = res) := ⟨_, h, rfl⟩
  obtain ⟨H, eH⟩ : ∃ H, H = s.heap := ⟨_, rfl⟩
  obtain ⟨locs, eL⟩ : ∃ locs : List Loc, locs = [] := ⟨_, rfl⟩
  have hH : Hs D A s.heap (wMn cI cJ cQ ad yn ym yk yl yt yd yu ye yv yo y0 y1 yc yh) H locs := by rw [eH, eL]; exact hH
  rw [← eL]
  suffices hgo : W p l e rmX3_cellToScreen s m args below meth c H locs 0 0 Q (F0 m 0 ls []) by rw [eH] at hgo; exact hgo
  clear eH eL
  refine lv_bipush (v := (-9)) hx hb dX3_cellToScreen_0 (by decide) ?_
  refine lv_istore_n (lv' := [(2, .int (-9)), (0, .ref (ad 0)), (1, .int v1)]) hx hb dX3_cellToScreen_2 rfl hl (by decide) rfl (fun ls hl => ?_)
  refine lv_aload_n hx hb dX3_cellToScreen_3 rfl (lv_at hl 1 rfl) ?_
  refine k_get (v := .ref (ad 1)) F hK hH 0 inX3_cellToScreen_X3 0 mbX3_cellToScreen_f10 dX3_cellToScreen_4 rfl rfl (by decide) rfl ?_
  refine lv_iload_n hx hb dX3_cellToScreen_7 rfl (lv_at hl 2 rfl) ?_
  obtain ⟨x1, hcl, hf⟩ := wp_b hf
  refine k_Vi F hK hH hA hl.1 ⟨Nat.zero_le _, Nat.zero_le _⟩ [1, 2, 3, 4, 5, 6, 7, 8] [.int v1] [] (ctX0_sightFrom (fun k => ad (1 + k)) yn v1 hcl) (cwV 1 hts gX3_cellToScreen_X0_sightFrom rfl rfl rfl hdVX0_sightFrom ⟨Nat.le_of_ble_eq_true rfl, Nat.le_of_ble_eq_true rfl⟩) dX3_cellToScreen_8 1 rfl rfl rfl rfl rfl (Nat.le_of_ble_eq_true rfl) rfl rfl (by decide) (fun H locs hH => ?_)
  have hH : Hs D A s.heap (wMn cI cJ cQ ad yn ym yk yl yt yd yu ye yv yo y0 y1 yc yh) H locs := hH
  obtain ⟨x2, hcl, hf⟩ := wp_b hf
  refine k_Si F hK hH hA hl.1 ⟨Nat.zero_le _, Nat.zero_le _⟩ [] [.int x1] [] (ctJ6_bitCount_0f7a4 x1 hcl) (va_cwS 1 hts gX3_cellToScreen_J6_bitCount_0f7a4 rfl rfl rfl hdSJ6_bitCount_0f7a4 ⟨Nat.le_of_ble_eq_true rfl, Nat.le_of_ble_eq_true rfl⟩) dX3_cellToScreen_11 rfl rfl (Nat.le_of_ble_eq_true rfl) rfl rfl (by decide) (fun H locs hH => ?_)
  have hH : Hs D A s.heap (wMn cI cJ cQ ad yn ym yk yl yt yd yu ye yv yo y0 y1 yc yh) H locs := hH
  refine lv_istore_n (lv' := [(3, .int x2), (2, .int (-9)), (0, .ref (ad 0)), (1, .int v1)]) hx hb dX3_cellToScreen_14 rfl hl (by decide) rfl (fun ls hl => ?_)
  refine lv_iconst (v := 0) hx hb dX3_cellToScreen_15 (by decide) ?_
  refine lv_istore (lv' := [(4, .int 0), (3, .int x2), (2, .int (-9)), (0, .ref (ad 0)), (1, .int v1)]) hx hb dX3_cellToScreen_16 hl (by decide) rfl (fun ls hl => ?_)
  have LP : ∀ (Φ : (Int32 × LandT) → Prop), (∀ (t7 : Int32) (t8 : LandT) (H : Heap) (locs : List Loc) (ls : Array Slot), Φ ((t7, t8)) → Hs D A s.heap (wMn cI cJ cQ ad yn t8 yk yl yt yd yu ye yv yo y0 y1 yc yh) H locs → lv_has ls 6 [(2, .int t7)] → W p l e rmX3_cellToScreen s m args below meth c H locs 0 0 Q (F0 m 54 ls [])) → ∀ (n : Nat) (t3 : Int32) (t4 : Int32) (t5 : Int32) (t6 : LandT) (H : Heap) (locs : List Loc) (ls : Array Slot), wpO (lp (bX3_cellToScreen_18 v1 yn) n (t3, t4, t5, t6)) Φ → Hs D A s.heap (wMn cI cJ cQ ad yn t6 yk yl yt yd yu ye yv yo y0 y1 yc yh) H locs → lv_has ls 6 [(0, .ref (ad 0)), (1, .int v1), (2, .int t3), (3, .int t4), (4, .int t5)] → W p l e rmX3_cellToScreen s m args below meth c H locs 0 0 Q (F0 m 18 ls []) := by
    intro Φ EX n
    induction n with
    | zero =>
      intro t3 t4 t5 t6 H locs ls hf hH hl
      exact (wp_l0 hf).elim
    | succ n ih =>
      intro t3 t4 t5 t6 H locs ls hf hH hl
      have hf := wp_l hf
      refine lv_iload hx hb dX3_cellToScreen_18 (lv_at hl 4 rfl) ?_
      refine lv_bipush (v := 16) hx hb dX3_cellToScreen_20 (by decide) ?_
      refine lv_icmp_ge (tgt := 54) hx hb dX3_cellToScreen_22 (by decide) (fun hc => ?_) (fun hc => ?_)
      · have hf := wp_t hc hf
        have hw := wp_out hf
        exact EX _ _ _ _ _ hw hH (lv_sub hl [2] rfl)
      · have hf := wp_f hc hf
        refine lv_aload_n hx hb dX3_cellToScreen_25 rfl (lv_at hl 0 rfl) ?_
        refine lv_iload hx hb dX3_cellToScreen_26 (lv_at hl 4 rfl) ?_
        refine lv_bipush (v := 9) hx hb dX3_cellToScreen_28 (by decide) ?_
        refine lv_iload_n hx hb dX3_cellToScreen_30 rfl (lv_at hl 1 rfl) ?_
        obtain ⟨x9, hcl, hf⟩ := wp_b hf
        refine k_Vi0 F hK hH hA hl.1 ⟨Nat.zero_le _, Nat.zero_le _⟩ [.int t5, .int 9, .int v1] [] (ctX3_manySeenWith ad yn t6 yk yl yt yd yu ye yv yo y0 y1 yc yh t5 9 v1 hcl) (cwV 3 hts gX3_cellToScreen_X3_manySeenWith rfl rfl rfl hdVX3_manySeenWith ⟨Nat.le_of_ble_eq_true rfl, Nat.le_of_ble_eq_true rfl⟩) dX3_cellToScreen_31 0 rfl rfl rfl rfl rfl (Nat.le_of_ble_eq_true rfl) rfl (fun H locs hH => ?_)
        have hH : Hs D A s.heap (wMn cI cJ cQ ad yn x9.2 yk yl yt yd yu ye yv yo y0 y1 yc yh) H locs := hH
        refine W.eq (g2 := F0 m 34 ls [.int x9.1]) rfl ?_
        refine lv_istore (lv' := [(5, .int x9.1), (0, .ref (ad 0)), (1, .int v1), (2, .int t3), (3, .int t4), (4, .int t5)]) hx hb dX3_cellToScreen_34 hl (by decide) rfl (fun ls hl => ?_)
        refine lv_iload hx hb dX3_cellToScreen_36 (lv_at hl 0 rfl) ?_
        refine lv_iload_n hx hb dX3_cellToScreen_38 rfl (lv_at hl 4 rfl) ?_
        refine lv_icmp_ge (tgt := 48) hx hb dX3_cellToScreen_39 (by decide) (fun hc => ?_) (fun hc => ?_)
        · have hf := wp_t hc hf
          refine lv_iinc (v := t5 + 1) (lv' := [(4, .int (t5 + 1)), (5, .int x9.1), (0, .ref (ad 0)), (1, .int v1), (2, .int t3), (3, .int t4)]) hx hb dX3_cellToScreen_48 hl (k := 5) rfl rfl (by decide) rfl (fun ls hl => ?_)
          refine lv_goto (tgt := 18) hx hb dX3_cellToScreen_51 (by decide) ?_
          have hw := wp_in hf
          exact ih _ _ _ _ _ _ _ hw hH (lv_sub hl [2, 3, 4, 5, 0] rfl)
        · have hf := wp_f hc hf
          refine lv_iload hx hb dX3_cellToScreen_42 (lv_at hl 0 rfl) ?_
          refine lv_istore_n (lv' := [(3, .int x9.1), (5, .int x9.1), (0, .ref (ad 0)), (1, .int v1), (2, .int t3), (4, .int t5)]) hx hb dX3_cellToScreen_44 rfl hl (by decide) rfl (fun ls hl => ?_)
          refine lv_iload hx hb dX3_cellToScreen_45 (lv_at hl 5 rfl) ?_
          refine lv_istore_n (lv' := [(2, .int t5), (3, .int x9.1), (5, .int x9.1), (0, .ref (ad 0)), (1, .int v1), (4, .int t5)]) hx hb dX3_cellToScreen_47 rfl hl (by decide) rfl (fun ls hl => ?_)
          refine lv_iinc (v := t5 + 1) (lv' := [(4, .int (t5 + 1)), (2, .int t5), (3, .int x9.1), (5, .int x9.1), (0, .ref (ad 0)), (1, .int v1)]) hx hb dX3_cellToScreen_48 hl (k := 5) rfl rfl (by decide) rfl (fun ls hl => ?_)
          refine lv_goto (tgt := 18) hx hb dX3_cellToScreen_51 (by decide) ?_
          have hw := wp_in hf
          exact ih _ _ _ _ _ _ _ hw hH (lv_sub hl [4, 5, 1, 2, 0] rfl)
  refine LP _ (fun t7 t8 H locs ls hf hH hl => ?_) fu _ _ _ _ _ _ _ (wp_bb hf) hH (lv_sub hl [3, 4, 2, 1, 0] rfl)
  refine lv_iload_n hx hb dX3_cellToScreen_54 rfl (lv_at hl 0 rfl) ?_
  have hrs := wp_s hf
  subst hrs
  exact RET H locs ls 55 dX3_cellToScreen_55 rfl hH

def fX3_hill (v1 : Int32) (v2 : Int32) (yn : LandT) (ym : LandT) (ye : (Nat → Int32)) : Option (Int32 × LandT × (Nat → Int32)) :=
  Option.bind (fX3_isBranch v1) fun x1 =>
  if x1 = 0 then
    Option.bind (fX3_refuse (-1) ye) fun x6 =>
    some (x6.1, ym, x6.2)
  else
    Option.bind (fX3_isEither v2) fun x2 =>
    if x2 = 0 then
      Option.bind (fX3_refuse (-2) ye) fun x5 =>
      some (x5.1, ym, x5.2)
    else
      if v2 = 0 then
        Option.bind (fX3_cellToLevel v1 yn ym) fun x4 =>
        some (x4.1, x4.2, ye)
      else
        Option.bind (fX3_cellToScreen v1 yn ym) fun x3 =>
        some (x3.1, x3.2, ye)

def rmX3_hill : Room := { frames := 6, cells := 0, slots := 0, locals := 150 }
theorem hdVX3_hill : yX3_hill.cls = RX3 ∧ yX3_hill.cls ≠ "java/lang/invoke/MethodHandle" ∧ yX3_hill.cls ≠ "java/lang/invoke/VarHandle" ∧ (parseMethodDescriptor yX3_hill.desc).map (fun d => d.parameters.length) = some 2 := by decide +kernel
set_option maxHeartbeats 4000000 in
set_option maxRecDepth 100000 in
theorem ctX3_hill {l : Launch} {D : va_G} {cI cJ cQ : ClassId} (ad : Nat → Nat) (yn : LandT) (ym : LandT) (yk : LandT) (yl : (Nat → Int32)) (yt : Int32) (yd : Int32) (yu : (Nat → Int32)) (ye : (Nat → Int32)) (yv : (Nat → Int32)) (yo : (Nat → Int64)) (y0 : (Nat → Int32)) (y1 : (Nat → Int32)) (yc : Int32) (yh : Int32) (v1 : Int32) (v2 : Int32) {res : Int32 × LandT × (Nat → Int32)} (h : fX3_hill v1 v2 yn ym ye = some res) : CtI l D cI cJ cQ yX3_hill wsX3_hill rmX3_hill [.ref (ad 0), .int v1, .int v2] (wMn cI cJ cQ ad yn ym yk yl yt yd yu ye yv yo y0 y1 yc yh) res.1 (wMn cI cJ cQ ad yn res.2.1 yk yl yt yd yu res.2.2 yv yo y0 y1 yc yh) := by
  refine ctI_of .int (cc := cX3_hill) (maxL := 3) (by decide) rfl (Nat.le_of_ble_eq_true rfl) ?_
  intro p e s m args below meth c A Q ls F hK hA RET hH hl
  obtain ⟨hx, hb, hml, hown, hts⟩ := id F
  have hl : lv_has ls 3 [(0, .ref (ad 0)), (1, .int v1), (2, .int v2)] := hl
  have hf : wpO (fX3_hill v1 v2 yn ym ye) (fun v => v = res) := ⟨_, h, rfl⟩
  obtain ⟨H, eH⟩ : ∃ H, H = s.heap := ⟨_, rfl⟩
  obtain ⟨locs, eL⟩ : ∃ locs : List Loc, locs = [] := ⟨_, rfl⟩
  have hH : Hs D A s.heap (wMn cI cJ cQ ad yn ym yk yl yt yd yu ye yv yo y0 y1 yc yh) H locs := by rw [eH, eL]; exact hH
  rw [← eL]
  suffices hgo : W p l e rmX3_hill s m args below meth c H locs 0 0 Q (F0 m 0 ls []) by rw [eH] at hgo; exact hgo
  clear eH eL
  refine lv_iload_n hx hb dX3_hill_0 rfl (lv_at hl 1 rfl) ?_
  obtain ⟨x1, hcl, hf⟩ := wp_b hf
  refine k_Si F hK hH hA hl.1 ⟨Nat.zero_le _, Nat.zero_le _⟩ [] [.int v1] [] (ctX3_isBranch v1 hcl) (va_cwS 1 hts gX3_hill_X3_isBranch rfl rfl rfl hdSX3_isBranch ⟨Nat.le_of_ble_eq_true rfl, Nat.le_of_ble_eq_true rfl⟩) dX3_hill_1 rfl rfl (Nat.le_of_ble_eq_true rfl) rfl rfl (by decide) (fun H locs hH => ?_)
  have hH : Hs D A s.heap (wMn cI cJ cQ ad yn ym yk yl yt yd yu ye yv yo y0 y1 yc yh) H locs := hH
  refine lv_if_ne (tgt := 13) hx hb dX3_hill_4 (by decide) (fun hc => ?_) (fun hc => ?_)
  · have hf := wp_f hc hf
    refine lv_iload_n hx hb dX3_hill_13 rfl (lv_at hl 2 rfl) ?_
    obtain ⟨x2, hcl, hf⟩ := wp_b hf
    refine k_Si F hK hH hA hl.1 ⟨Nat.zero_le _, Nat.zero_le _⟩ [] [.int v2] [] (ctX3_isEither v2 hcl) (va_cwS 1 hts gX3_hill_X3_isEither rfl rfl rfl hdSX3_isEither ⟨Nat.le_of_ble_eq_true rfl, Nat.le_of_ble_eq_true rfl⟩) dX3_hill_14 rfl rfl (Nat.le_of_ble_eq_true rfl) rfl rfl (by decide) (fun H locs hH => ?_)
    have hH : Hs D A s.heap (wMn cI cJ cQ ad yn ym yk yl yt yd yu ye yv yo y0 y1 yc yh) H locs := hH
    refine lv_if_ne (tgt := 27) hx hb dX3_hill_17 (by decide) (fun hc => ?_) (fun hc => ?_)
    · have hf := wp_f hc hf
      refine lv_iload_n hx hb dX3_hill_27 rfl (lv_at hl 2 rfl) ?_
      refine lv_if_ne (tgt := 39) hx hb dX3_hill_28 (by decide) (fun hc => ?_) (fun hc => ?_)
      · have hf := wp_f hc hf
        refine lv_aload_n hx hb dX3_hill_39 rfl (lv_at hl 0 rfl) ?_
        refine lv_iload_n hx hb dX3_hill_40 rfl (lv_at hl 1 rfl) ?_
        obtain ⟨x3, hcl, hf⟩ := wp_b hf
        refine k_Vi0 F hK hH hA hl.1 ⟨Nat.zero_le _, Nat.zero_le _⟩ [.int v1] [] (ctX3_cellToScreen ad yn ym yk yl yt yd yu ye yv yo y0 y1 yc yh v1 hcl) (cwV 1 hts gX3_hill_X3_cellToScreen rfl rfl rfl hdVX3_cellToScreen ⟨Nat.le_of_ble_eq_true rfl, Nat.le_of_ble_eq_true rfl⟩) dX3_hill_41 0 rfl rfl rfl rfl rfl (Nat.le_of_ble_eq_true rfl) rfl (fun H locs hH => ?_)
        have hH : Hs D A s.heap (wMn cI cJ cQ ad yn x3.2 yk yl yt yd yu ye yv yo y0 y1 yc yh) H locs := hH
        refine W.eq (g2 := F0 m 44 ls [.int x3.1]) rfl ?_
        have hrs := wp_s hf
        subst hrs
        exact RET H locs ls 44 dX3_hill_44 rfl hH
      · have hf := wp_t hc hf
        refine lv_aload_n hx hb dX3_hill_31 rfl (lv_at hl 0 rfl) ?_
        refine lv_iload_n hx hb dX3_hill_32 rfl (lv_at hl 1 rfl) ?_
        obtain ⟨x4, hcl, hf⟩ := wp_b hf
        refine k_Vi0 F hK hH hA hl.1 ⟨Nat.zero_le _, Nat.zero_le _⟩ [.int v1] [] (ctX3_cellToLevel ad yn ym yk yl yt yd yu ye yv yo y0 y1 yc yh v1 hcl) (cwV 1 hts gX3_hill_X3_cellToLevel rfl rfl rfl hdVX3_cellToLevel ⟨Nat.le_of_ble_eq_true rfl, Nat.le_of_ble_eq_true rfl⟩) dX3_hill_33 0 rfl rfl rfl rfl rfl (Nat.le_of_ble_eq_true rfl) rfl (fun H locs hH => ?_)
        have hH : Hs D A s.heap (wMn cI cJ cQ ad yn x4.2 yk yl yt yd yu ye yv yo y0 y1 yc yh) H locs := hH
        refine W.eq (g2 := F0 m 36 ls [.int x4.1]) rfl ?_
        refine lv_goto (tgt := 44) hx hb dX3_hill_36 (by decide) ?_
        have hrs := wp_s hf
        subst hrs
        exact RET H locs ls 44 dX3_hill_44 rfl hH
    · have hf := wp_t hc hf
      refine lv_aload_n hx hb dX3_hill_20 rfl (lv_at hl 0 rfl) ?_
      refine lv_bipush (v := (-2)) hx hb dX3_hill_21 (by decide) ?_
      obtain ⟨x5, hcl, hf⟩ := wp_b hf
      refine k_Vi0 F hK hH hA hl.1 ⟨Nat.zero_le _, Nat.zero_le _⟩ [.int (-2)] [] (ctX3_refuse ad yn ym yk yl yt yd yu ye yv yo y0 y1 yc yh (-2) hcl) (cwV 1 hts gX3_hill_X3_refuse rfl rfl rfl hdVX3_refuse ⟨Nat.le_of_ble_eq_true rfl, Nat.le_of_ble_eq_true rfl⟩) dX3_hill_23 0 rfl rfl rfl rfl rfl (Nat.le_of_ble_eq_true rfl) rfl (fun H locs hH => ?_)
      have hH : Hs D A s.heap (wMn cI cJ cQ ad yn ym yk yl yt yd yu x5.2 yv yo y0 y1 yc yh) H locs := hH
      refine W.eq (g2 := F0 m 26 ls [.int x5.1]) rfl ?_
      have hrs := wp_s hf
      subst hrs
      exact RET H locs ls 26 dX3_hill_26 rfl hH
  · have hf := wp_t hc hf
    refine lv_aload_n hx hb dX3_hill_7 rfl (lv_at hl 0 rfl) ?_
    refine lv_iconst (v := (-1)) hx hb dX3_hill_8 (by decide) ?_
    obtain ⟨x6, hcl, hf⟩ := wp_b hf
    refine k_Vi0 F hK hH hA hl.1 ⟨Nat.zero_le _, Nat.zero_le _⟩ [.int (-1)] [] (ctX3_refuse ad yn ym yk yl yt yd yu ye yv yo y0 y1 yc yh (-1) hcl) (cwV 1 hts gX3_hill_X3_refuse rfl rfl rfl hdVX3_refuse ⟨Nat.le_of_ble_eq_true rfl, Nat.le_of_ble_eq_true rfl⟩) dX3_hill_9 0 rfl rfl rfl rfl rfl (Nat.le_of_ble_eq_true rfl) rfl (fun H locs hH => ?_)
    have hH : Hs D A s.heap (wMn cI cJ cQ ad yn ym yk yl yt yd yu x6.2 yv yo y0 y1 yc yh) H locs := hH
    refine W.eq (g2 := F0 m 12 ls [.int x6.1]) rfl ?_
    have hrs := wp_s hf
    subst hrs
    exact RET H locs ls 12 dX3_hill_12 rfl hH

def bX3_isEverywhereWithout_2 (v1 : Int32) (v2 : Int32) (yn : LandT) (yv : (Nat → Int32)) : (Int32) → Option ((Int32) ⊕ ((Int32) ⊕ (Unit))) := fun (t1 : Int32) =>
  if (10 : Int32) ≤ t1 then
    some (.inr (.inr ()))
  else
    if ob t1 10 then none else
    Option.bind (fX0_verdictIn ((yv (Int32.toNatClampNeg t1)) &&& (v1 ^^^ (-1))) yn) fun x2 =>
    if x2 = v2 then
      some (.inl (t1 + 1))
    else
      some (.inr (.inl 0))

def fX3_isEverywhereWithout (v1 : Int32) (v2 : Int32) (yn : LandT) (yv : (Nat → Int32)) : Option (Int32) :=
  Option.bind (lp (bX3_isEverywhereWithout_2 v1 v2 yn yv) fu 0) (el (fun v => some v) (fun (_ : Unit) =>
    some 1))

def rmX3_isEverywhereWithout : Room := { frames := 3, cells := 0, slots := 0, locals := 65 }
theorem mbX3_isEverywhereWithout_f10 : Cond.fieldLink RX3 10 (TX3 0).1 (TX3 0).2.1 (TX3 0).2.2.1 ∈ wsX3_isEverywhereWithout := by decide +kernel
theorem inX3_isEverywhereWithout_X3 : ∀ w ∈ wsX30, w ∈ wsX3_isEverywhereWithout := by decide +kernel
theorem mbX3_isEverywhereWithout_f43 : Cond.fieldLink RX3 43 (TX3 7).1 (TX3 7).2.1 (TX3 7).2.2.1 ∈ wsX3_isEverywhereWithout := by decide +kernel
theorem hdVX3_isEverywhereWithout : yX3_isEverywhereWithout.cls = RX3 ∧ yX3_isEverywhereWithout.cls ≠ "java/lang/invoke/MethodHandle" ∧ yX3_isEverywhereWithout.cls ≠ "java/lang/invoke/VarHandle" ∧ (parseMethodDescriptor yX3_isEverywhereWithout.desc).map (fun d => d.parameters.length) = some 2 := by decide +kernel
set_option maxHeartbeats 4000000 in
set_option maxRecDepth 100000 in
theorem ctX3_isEverywhereWithout {l : Launch} {D : va_G} {cI cJ cQ : ClassId} (ad : Nat → Nat) (yn : LandT) (ym : LandT) (yk : LandT) (yl : (Nat → Int32)) (yt : Int32) (yd : Int32) (yu : (Nat → Int32)) (ye : (Nat → Int32)) (yv : (Nat → Int32)) (yo : (Nat → Int64)) (y0 : (Nat → Int32)) (y1 : (Nat → Int32)) (yc : Int32) (yh : Int32) (v1 : Int32) (v2 : Int32) {res : Int32} (h : fX3_isEverywhereWithout v1 v2 yn yv = some res) : CtI l D cI cJ cQ yX3_isEverywhereWithout wsX3_isEverywhereWithout rmX3_isEverywhereWithout [.ref (ad 0), .int v1, .int v2] (wMn cI cJ cQ ad yn ym yk yl yt yd yu ye yv yo y0 y1 yc yh) res (wMn cI cJ cQ ad yn ym yk yl yt yd yu ye yv yo y0 y1 yc yh) := by
  refine ctI_of .boolean (cc := cX3_isEverywhereWithout) (maxL := 4) (by decide) rfl (Nat.le_of_ble_eq_true rfl) ?_
  intro p e s m args below meth c A Q ls F hK hA RET hH hl
  obtain ⟨hx, hb, hml, hown, hts⟩ := id F
  have hl : lv_has ls 4 [(0, .ref (ad 0)), (1, .int v1), (2, .int v2)] := hl
  have hf : wpO (fX3_isEverywhereWithout v1 v2 yn yv) (fun v => v = res) := ⟨_, h, rfl⟩
  obtain ⟨H, eH⟩ : ∃ H, H = s.heap := ⟨_, rfl⟩
  obtain ⟨locs, eL⟩ : ∃ locs : List Loc, locs = [] := ⟨_, rfl⟩
  have hH : Hs D A s.heap (wMn cI cJ cQ ad yn ym yk yl yt yd yu ye yv yo y0 y1 yc yh) H locs := by rw [eH, eL]; exact hH
  rw [← eL]
  suffices hgo : W p l e rmX3_isEverywhereWithout s m args below meth c H locs 0 0 Q (F0 m 0 ls []) by rw [eH] at hgo; exact hgo
  clear eH eL
  refine lv_iconst (v := 0) hx hb dX3_isEverywhereWithout_0 (by decide) ?_
  refine lv_istore_n (lv' := [(3, .int 0), (0, .ref (ad 0)), (1, .int v1), (2, .int v2)]) hx hb dX3_isEverywhereWithout_1 rfl hl (by decide) rfl (fun ls hl => ?_)
  have LP : ∀ (Φ : ((Int32) ⊕ (Unit)) → Prop), (∀ v : Int32, Φ (.inl v) → v = res) → (∀ (_ : Unit) (H : Heap) (locs : List Loc) (ls : Array Slot), Φ (.inr ()) → Hs D A s.heap (wMn cI cJ cQ ad yn ym yk yl yt yd yu ye yv yo y0 y1 yc yh) H locs → lv_has ls 4 [] → W p l e rmX3_isEverywhereWithout s m args below meth c H locs 0 0 Q (F0 m 37 ls [])) → ∀ (n : Nat) (t1 : Int32) (H : Heap) (locs : List Loc) (ls : Array Slot), wpO (lp (bX3_isEverywhereWithout_2 v1 v2 yn yv) n t1) Φ → Hs D A s.heap (wMn cI cJ cQ ad yn ym yk yl yt yd yu ye yv yo y0 y1 yc yh) H locs → lv_has ls 4 [(0, .ref (ad 0)), (1, .int v1), (2, .int v2), (3, .int t1)] → W p l e rmX3_isEverywhereWithout s m args below meth c H locs 0 0 Q (F0 m 2 ls []) := by
    intro Φ hret EX n
    induction n with
    | zero =>
      intro t1 H locs ls hf hH hl
      exact (wp_l0 hf).elim
    | succ n ih =>
      intro t1 H locs ls hf hH hl
      have hf := wp_l hf
      refine lv_iload_n hx hb dX3_isEverywhereWithout_2 rfl (lv_at hl 3 rfl) ?_
      refine lv_bipush (v := 10) hx hb dX3_isEverywhereWithout_3 (by decide) ?_
      refine lv_icmp_ge (tgt := 37) hx hb dX3_isEverywhereWithout_5 (by decide) (fun hc => ?_) (fun hc => ?_)
      · have hf := wp_t hc hf
        have hw := wp_out hf
        exact EX () _ _ _ hw hH (lv_sub hl [] rfl)
      · have hf := wp_f hc hf
        refine lv_aload_n hx hb dX3_isEverywhereWithout_8 rfl (lv_at hl 0 rfl) ?_
        refine k_get (v := .ref (ad 1)) F hK hH 0 inX3_isEverywhereWithout_X3 0 mbX3_isEverywhereWithout_f10 dX3_isEverywhereWithout_9 rfl rfl (by decide) rfl ?_
        refine lv_aload_n hx hb dX3_isEverywhereWithout_12 rfl (lv_at hl 0 rfl) ?_
        refine k_get (v := .ref (ad 30)) F hK hH 0 inX3_isEverywhereWithout_X3 7 mbX3_isEverywhereWithout_f43 dX3_isEverywhereWithout_13 rfl rfl (by decide) rfl ?_
        refine lv_iload_n hx hb dX3_isEverywhereWithout_16 rfl (lv_at hl 3 rfl) ?_
        obtain ⟨hi, hf⟩ := wp_n hf
        refine k_iald (f := yv) (n := 10) F hK hH 30 dX3_isEverywhereWithout_17 hi rfl ?_
        refine lv_iload_n hx hb dX3_isEverywhereWithout_18 rfl (lv_at hl 1 rfl) ?_
        refine lv_iconst (v := (-1)) hx hb dX3_isEverywhereWithout_19 (by decide) ?_
        refine lv_ixor hx hb dX3_isEverywhereWithout_20 ?_
        refine lv_iand hx hb dX3_isEverywhereWithout_21 ?_
        obtain ⟨x2, hcl, hf⟩ := wp_b hf
        refine k_Vi F hK hH hA hl.1 ⟨Nat.zero_le _, Nat.zero_le _⟩ [1, 2, 3, 4, 5, 6, 7, 8] [.int ((yv (Int32.toNatClampNeg t1)) &&& (v1 ^^^ (-1)))] [] (ctX0_verdictIn (fun k => ad (1 + k)) yn ((yv (Int32.toNatClampNeg t1)) &&& (v1 ^^^ (-1))) hcl) (cwV 1 hts gX3_isEverywhereWithout_X0_verdictIn rfl rfl rfl hdVX0_verdictIn ⟨Nat.le_of_ble_eq_true rfl, Nat.le_of_ble_eq_true rfl⟩) dX3_isEverywhereWithout_22 1 rfl rfl rfl rfl rfl (Nat.le_of_ble_eq_true rfl) rfl rfl (by decide) (fun H locs hH => ?_)
        have hH : Hs D A s.heap (wMn cI cJ cQ ad yn ym yk yl yt yd yu ye yv yo y0 y1 yc yh) H locs := hH
        refine lv_iload_n hx hb dX3_isEverywhereWithout_25 rfl (lv_at hl 2 rfl) ?_
        refine lv_icmp_eq (tgt := 31) hx hb dX3_isEverywhereWithout_26 (by decide) (fun hc => ?_) (fun hc => ?_)
        · have hf := wp_t hc hf
          refine lv_iinc (v := t1 + 1) (lv' := [(3, .int (t1 + 1)), (0, .ref (ad 0)), (1, .int v1), (2, .int v2)]) hx hb dX3_isEverywhereWithout_31 hl (k := 3) rfl rfl (by decide) rfl (fun ls hl => ?_)
          refine lv_goto (tgt := 2) hx hb dX3_isEverywhereWithout_34 (by decide) ?_
          have hw := wp_in hf
          exact ih _ _ _ _ hw hH (lv_sub hl [1, 2, 3, 0] rfl)
        · have hf := wp_f hc hf
          refine lv_iconst (v := 0) hx hb dX3_isEverywhereWithout_29 (by decide) ?_
          have hrs := hret _ (wp_out hf)
          subst hrs
          exact RET H locs ls 30 dX3_isEverywhereWithout_30 (by show narrow .boolean (.int 0) = .int 0; rfl) hH
  refine LP _ (fun v hv => by have h9 := wp_s hv; exact h9) (fun _ H locs ls hf hH hl => ?_) fu _ _ _ _ (wp_bb hf) hH (lv_sub hl [1, 2, 3, 0] rfl)
  refine lv_iconst (v := 1) hx hb dX3_isEverywhereWithout_37 (by decide) ?_
  have hrs := wp_s hf
  subst hrs
  exact RET H locs ls 38 dX3_isEverywhereWithout_38 (by show narrow .boolean (.int 1) = .int 1; rfl) hH

