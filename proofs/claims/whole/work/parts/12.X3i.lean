def bX3_mist_92 (v1 : Int32) (v2 : Int32) (v4 : Int32) (yn : LandT) (x7 : (Int64 × (Nat → Int64))) : (Int64 × Int32 × LandT) → Option ((Int64 × Int32 × LandT) ⊕ (Int64 × LandT)) := fun ((t9, t10, t11) : Int64 × Int32 × LandT) =>
  if v2 < t10 then
    some (.inr (t9, t11))
  else
    Option.bind (fX0_verdictFrom v1 (gH t11, gR t11, gK t11, gF t11, gP t11, gV t11, gQ t11, gN t11, gD t11, imax 0 ((gE yn) - (3 * t10)), gT t11)) fun x14 =>
    if x14 = v4 then
      if ob t10 8 then none else
      some (.inl (t9 + (x7.2 (Int32.toNatClampNeg t10)), t10 + 1, (gH t11, gR t11, gK t11, gF t11, gP t11, gV t11, gQ t11, gN t11, gD t11, imax 0 ((gE yn) - (3 * t10)), gT t11)))
    else
      some (.inl (t9, t10 + 1, (gH t11, gR t11, gK t11, gF t11, gP t11, gV t11, gQ t11, gN t11, gD t11, imax 0 ((gE yn) - (3 * t10)), gT t11)))

def fX3_mist (v1 : Int32) (v2 : Int32) (v3 : Int32) (v4 : Int32) (v5 : Int32) (yn : LandT) (ym : LandT) (ye : (Nat → Int32)) (yo : (Nat → Int64)) : Option (Int64 × LandT × (Nat → Int32) × (Nat → Int64)) :=
  Option.bind (fX3_isBranch v1) fun x1 =>
  if x1 = 0 then
    Option.bind (fX3_refuseLong (-1) ye) fun x19 =>
    some (x19.1, ym, x19.2, yo)
  else
    if v2 < 0 then
      Option.bind (fX3_refuseLong (-4) ye) fun x2 =>
      some (x2.1, ym, x2.2, yo)
    else
      if (2 : Int32) ≤ v3 then
        if (7 : Int32) < v2 then
          Option.bind (fX3_refuseLong (-6) ye) fun x3 =>
          some (x3.1, ym, x3.2, yo)
        else
          if v3 ≤ 20 then
            Option.bind (fX3_isVerdict v4) fun x4 =>
            if x4 = 0 then
              Option.bind (fX3_refuseLong (-2) ye) fun x5 =>
              some (x5.1, ym, x5.2, yo)
            else
              Option.bind (fX3_isEither v5) fun x6 =>
              if x6 = 0 then
                Option.bind (fX3_refuseLong (-2) ye) fun x16 =>
                some (x16.1, ym, x16.2, yo)
              else
                Option.bind (fX3_weighMists v2 v3 yo) fun x7 =>
                Option.bind (fX3_inMindBehind v2 yn ym) fun x8 =>
                Option.bind (lp (bX3_mist_92 v1 v2 v4 yn x7) fu (0, 0, x8)) fun ((t12, t13) : Int64 × LandT) =>
                Option.bind (fX3_partOf t12 x7.1 v5) fun x15 =>
                some (x15, t13, ye, x7.2)
          else
            Option.bind (fX3_refuseLong (-6) ye) fun x17 =>
            some (x17.1, ym, x17.2, yo)
      else
        Option.bind (fX3_refuseLong (-4) ye) fun x18 =>
        some (x18.1, ym, x18.2, yo)

def rmX3_mist : Room := { frames := 5, cells := 0, slots := 0, locals := 123 }
theorem mbX3_mist_f10 : Cond.fieldLink RX3 10 (TX3 0).1 (TX3 0).2.1 (TX3 0).2.2.1 ∈ wsX3_mist := by decide +kernel
theorem inX3_mist_X3 : ∀ w ∈ wsX30, w ∈ wsX3_mist := by decide +kernel
theorem mbX3_mist_f152 : Cond.fieldLink RX3 152 (TX0 9).1 (TX0 9).2.1 (TX0 9).2.2.1 ∈ wsX3_mist := by decide +kernel
theorem inX3_mist_X0 : ∀ w ∈ wsX00, w ∈ wsX3_mist := by decide +kernel
theorem mbX3_mist_m244 : Cond.methodLink RX3 244 Lib.Math.max.name ∈ wsX3_mist := by decide +kernel
theorem mbX3_mist_max1 : Cond.static Lib.Math.max.name ∈ wsX3_mist := by decide +kernel
theorem mbX3_mist_max2 : Cond.initialized "java/lang/Math" ∈ wsX3_mist := by decide +kernel
theorem mbX3_mist_max3 : Cond.code Lib.Math.max.name Lib.Math.max.code 2 (some .int) ∈ wsX3_mist := by decide +kernel
theorem mbX3_mist_f46 : Cond.fieldLink RX3 46 (TX3 8).1 (TX3 8).2.1 (TX3 8).2.2.1 ∈ wsX3_mist := by decide +kernel
theorem hdVX3_mist : yX3_mist.cls = RX3 ∧ yX3_mist.cls ≠ "java/lang/invoke/MethodHandle" ∧ yX3_mist.cls ≠ "java/lang/invoke/VarHandle" ∧ (parseMethodDescriptor yX3_mist.desc).map (fun d => d.parameters.length) = some 5 := by decide +kernel
set_option maxHeartbeats 4000000 in
set_option maxRecDepth 100000 in
theorem ctX3_mist {l : Launch} {D : va_G} {cI cJ cQ : ClassId} (ad : Nat → Nat) (yn : LandT) (ym : LandT) (yk : LandT) (yl : (Nat → Int32)) (yt : Int32) (yd : Int32) (yu : (Nat → Int32)) (ye : (Nat → Int32)) (yv : (Nat → Int32)) (yo : (Nat → Int64)) (y0 : (Nat → Int32)) (y1 : (Nat → Int32)) (yc : Int32) (yh : Int32) (v1 : Int32) (v2 : Int32) (v3 : Int32) (v4 : Int32) (v5 : Int32) {res : Int64 × LandT × (Nat → Int32) × (Nat → Int64)} (h : fX3_mist v1 v2 v3 v4 v5 yn ym ye yo = some res) : CtL l D cI cJ cQ yX3_mist wsX3_mist rmX3_mist [.ref (ad 0), .int v1, .int v2, .int v3, .int v4, .int v5] (wMn cI cJ cQ ad yn ym yk yl yt yd yu ye yv yo y0 y1 yc yh) res.1 (wMn cI cJ cQ ad yn res.2.1 yk yl yt yd yu res.2.2.1 yv res.2.2.2 y0 y1 yc yh) := by
  refine ctL_of (cc := cX3_mist) (maxL := 12) (by decide) rfl (Nat.le_of_ble_eq_true rfl) ?_
  intro p e s m args below meth c A Q ls F hK hA RET hH hl
  obtain ⟨hx, hb, hml, hown, hts⟩ := id F
  have hl : lv_has ls 12 [(0, .ref (ad 0)), (1, .int v1), (2, .int v2), (3, .int v3), (4, .int v4), (5, .int v5)] := hl
  have hf : wpO (fX3_mist v1 v2 v3 v4 v5 yn ym ye yo) (fun v => v = res) := ⟨_, h, rfl⟩
  obtain ⟨H, eH⟩ : ∃ H, H = s.heap := ⟨_, rfl⟩
  obtain ⟨locs, eL⟩ : ∃ locs : List Loc, locs = [] := ⟨_, rfl⟩
  have hH : Hs D A s.heap (wMn cI cJ cQ ad yn ym yk yl yt yd yu ye yv yo y0 y1 yc yh) H locs := by rw [eH, eL]; exact hH
  rw [← eL]
  suffices hgo : W p l e rmX3_mist s m args below meth c H locs 0 0 Q (F0 m 0 ls []) by rw [eH] at hgo; exact hgo
  clear eH eL
  refine lv_iload_n hx hb dX3_mist_0 rfl (lv_at hl 1 rfl) ?_
  obtain ⟨x1, hcl, hf⟩ := wp_b hf
  refine k_Si F hK hH hA hl.1 ⟨Nat.zero_le _, Nat.zero_le _⟩ [] [.int v1] [] (ctX3_isBranch v1 hcl) (va_cwS 1 hts gX3_mist_X3_isBranch rfl rfl rfl hdSX3_isBranch ⟨Nat.le_of_ble_eq_true rfl, Nat.le_of_ble_eq_true rfl⟩) dX3_mist_1 rfl rfl (Nat.le_of_ble_eq_true rfl) rfl rfl (by decide) (fun H locs hH => ?_)
  have hH : Hs D A s.heap (wMn cI cJ cQ ad yn ym yk yl yt yd yu ye yv yo y0 y1 yc yh) H locs := hH
  refine lv_if_ne (tgt := 13) hx hb dX3_mist_4 (by decide) (fun hc => ?_) (fun hc => ?_)
  · have hf := wp_f hc hf
    refine lv_iload_n hx hb dX3_mist_13 rfl (lv_at hl 2 rfl) ?_
    refine lv_if_lt (tgt := 22) hx hb dX3_mist_14 (by decide) (fun hc => ?_) (fun hc => ?_)
    · have hf := wp_t hc hf
      refine lv_aload_n hx hb dX3_mist_22 rfl (lv_at hl 0 rfl) ?_
      refine lv_bipush (v := (-4)) hx hb dX3_mist_23 (by decide) ?_
      obtain ⟨x2, hcl, hf⟩ := wp_b hf
      refine k_Vl0 F hK hH hA hl.1 ⟨Nat.zero_le _, Nat.zero_le _⟩ [.int (-4)] [] (ctX3_refuseLong ad yn ym yk yl yt yd yu ye yv yo y0 y1 yc yh (-4) hcl) (cwV 1 hts gX3_mist_X3_refuseLong rfl rfl rfl hdVX3_refuseLong ⟨Nat.le_of_ble_eq_true rfl, Nat.le_of_ble_eq_true rfl⟩) dX3_mist_25 0 rfl rfl rfl rfl rfl (Nat.le_of_ble_eq_true rfl) rfl (fun H locs hH => ?_)
      have hH : Hs D A s.heap (wMn cI cJ cQ ad yn ym yk yl yt yd yu x2.2 yv yo y0 y1 yc yh) H locs := hH
      refine W.eq (g2 := F0 m 28 ls [.long x2.1]) rfl ?_
      have hrs := wp_s hf
      subst hrs
      exact RET H locs ls 28 dX3_mist_28 hH
    · have hf := wp_f hc hf
      refine lv_iload_n hx hb dX3_mist_17 rfl (lv_at hl 3 rfl) ?_
      refine lv_iconst (v := 2) hx hb dX3_mist_18 (by decide) ?_
      refine lv_icmp_ge (tgt := 29) hx hb dX3_mist_19 (by decide) (fun hc => ?_) (fun hc => ?_)
      · have hf := wp_t hc hf
        refine lv_iload_n hx hb dX3_mist_29 rfl (lv_at hl 2 rfl) ?_
        refine lv_bipush (v := 7) hx hb dX3_mist_30 (by decide) ?_
        refine lv_icmp_gt (tgt := 41) hx hb dX3_mist_32 (by decide) (fun hc => ?_) (fun hc => ?_)
        · have hf := wp_t hc hf
          refine lv_aload_n hx hb dX3_mist_41 rfl (lv_at hl 0 rfl) ?_
          refine lv_bipush (v := (-6)) hx hb dX3_mist_42 (by decide) ?_
          obtain ⟨x3, hcl, hf⟩ := wp_b hf
          refine k_Vl0 F hK hH hA hl.1 ⟨Nat.zero_le _, Nat.zero_le _⟩ [.int (-6)] [] (ctX3_refuseLong ad yn ym yk yl yt yd yu ye yv yo y0 y1 yc yh (-6) hcl) (cwV 1 hts gX3_mist_X3_refuseLong rfl rfl rfl hdVX3_refuseLong ⟨Nat.le_of_ble_eq_true rfl, Nat.le_of_ble_eq_true rfl⟩) dX3_mist_44 0 rfl rfl rfl rfl rfl (Nat.le_of_ble_eq_true rfl) rfl (fun H locs hH => ?_)
          have hH : Hs D A s.heap (wMn cI cJ cQ ad yn ym yk yl yt yd yu x3.2 yv yo y0 y1 yc yh) H locs := hH
          refine W.eq (g2 := F0 m 47 ls [.long x3.1]) rfl ?_
          have hrs := wp_s hf
          subst hrs
          exact RET H locs ls 47 dX3_mist_47 hH
        · have hf := wp_f hc hf
          refine lv_iload_n hx hb dX3_mist_35 rfl (lv_at hl 3 rfl) ?_
          refine lv_bipush (v := 20) hx hb dX3_mist_36 (by decide) ?_
          refine lv_icmp_le (tgt := 48) hx hb dX3_mist_38 (by decide) (fun hc => ?_) (fun hc => ?_)
          · have hf := wp_t hc hf
            refine lv_iload hx hb dX3_mist_48 (lv_at hl 4 rfl) ?_
            obtain ⟨x4, hcl, hf⟩ := wp_b hf
            refine k_Si F hK hH hA hl.1 ⟨Nat.zero_le _, Nat.zero_le _⟩ [] [.int v4] [] (ctX3_isVerdict v4 hcl) (va_cwS 1 hts gX3_mist_X3_isVerdict rfl rfl rfl hdSX3_isVerdict ⟨Nat.le_of_ble_eq_true rfl, Nat.le_of_ble_eq_true rfl⟩) dX3_mist_50 rfl rfl (Nat.le_of_ble_eq_true rfl) rfl rfl (by decide) (fun H locs hH => ?_)
            have hH : Hs D A s.heap (wMn cI cJ cQ ad yn ym yk yl yt yd yu ye yv yo y0 y1 yc yh) H locs := hH
            refine lv_if_eq (tgt := 64) hx hb dX3_mist_53 (by decide) (fun hc => ?_) (fun hc => ?_)
            · have hf := wp_t hc hf
              refine lv_aload_n hx hb dX3_mist_64 rfl (lv_at hl 0 rfl) ?_
              refine lv_bipush (v := (-2)) hx hb dX3_mist_65 (by decide) ?_
              obtain ⟨x5, hcl, hf⟩ := wp_b hf
              refine k_Vl0 F hK hH hA hl.1 ⟨Nat.zero_le _, Nat.zero_le _⟩ [.int (-2)] [] (ctX3_refuseLong ad yn ym yk yl yt yd yu ye yv yo y0 y1 yc yh (-2) hcl) (cwV 1 hts gX3_mist_X3_refuseLong rfl rfl rfl hdVX3_refuseLong ⟨Nat.le_of_ble_eq_true rfl, Nat.le_of_ble_eq_true rfl⟩) dX3_mist_67 0 rfl rfl rfl rfl rfl (Nat.le_of_ble_eq_true rfl) rfl (fun H locs hH => ?_)
              have hH : Hs D A s.heap (wMn cI cJ cQ ad yn ym yk yl yt yd yu x5.2 yv yo y0 y1 yc yh) H locs := hH
              refine W.eq (g2 := F0 m 70 ls [.long x5.1]) rfl ?_
              have hrs := wp_s hf
              subst hrs
              exact RET H locs ls 70 dX3_mist_70 hH
            · have hf := wp_f hc hf
              refine lv_iload hx hb dX3_mist_56 (lv_at hl 5 rfl) ?_
              obtain ⟨x6, hcl, hf⟩ := wp_b hf
              refine k_Si F hK hH hA hl.1 ⟨Nat.zero_le _, Nat.zero_le _⟩ [] [.int v5] [] (ctX3_isEither v5 hcl) (va_cwS 1 hts gX3_mist_X3_isEither rfl rfl rfl hdSX3_isEither ⟨Nat.le_of_ble_eq_true rfl, Nat.le_of_ble_eq_true rfl⟩) dX3_mist_58 rfl rfl (Nat.le_of_ble_eq_true rfl) rfl rfl (by decide) (fun H locs hH => ?_)
              have hH : Hs D A s.heap (wMn cI cJ cQ ad yn ym yk yl yt yd yu ye yv yo y0 y1 yc yh) H locs := hH
              refine lv_if_ne (tgt := 71) hx hb dX3_mist_61 (by decide) (fun hc => ?_) (fun hc => ?_)
              · have hf := wp_f hc hf
                refine lv_aload_n hx hb dX3_mist_71 rfl (lv_at hl 0 rfl) ?_
                refine lv_iload_n hx hb dX3_mist_72 rfl (lv_at hl 2 rfl) ?_
                refine lv_iload_n hx hb dX3_mist_73 rfl (lv_at hl 3 rfl) ?_
                obtain ⟨x7, hcl, hf⟩ := wp_b hf
                refine k_Vl0 F hK hH hA hl.1 ⟨Nat.zero_le _, Nat.zero_le _⟩ [.int v2, .int v3] [] (ctX3_weighMists ad yn ym yk yl yt yd yu ye yv yo y0 y1 yc yh v2 v3 hcl) (cwV 2 hts gX3_mist_X3_weighMists rfl rfl rfl hdVX3_weighMists ⟨Nat.le_of_ble_eq_true rfl, Nat.le_of_ble_eq_true rfl⟩) dX3_mist_74 0 rfl rfl rfl rfl rfl (Nat.le_of_ble_eq_true rfl) rfl (fun H locs hH => ?_)
                have hH : Hs D A s.heap (wMn cI cJ cQ ad yn ym yk yl yt yd yu ye yv x7.2 y0 y1 yc yh) H locs := hH
                refine W.eq (g2 := F0 m 77 ls [.long x7.1]) rfl ?_
                refine lv_lstore (lv' := [(6, .long x7.1), (0, .ref (ad 0)), (1, .int v1), (2, .int v2), (3, .int v3), (4, .int v4), (5, .int v5)]) hx hb dX3_mist_77 hl (by decide) rfl (fun ls hl => ?_)
                refine lv_lconst (v := 0) hx hb dX3_mist_79 (by decide) ?_
                refine lv_lstore (lv' := [(8, .long 0), (6, .long x7.1), (0, .ref (ad 0)), (1, .int v1), (2, .int v2), (3, .int v3), (4, .int v4), (5, .int v5)]) hx hb dX3_mist_80 hl (by decide) rfl (fun ls hl => ?_)
                refine lv_aload_n hx hb dX3_mist_82 rfl (lv_at hl 2 rfl) ?_
                refine lv_iload_n hx hb dX3_mist_83 rfl (lv_at hl 4 rfl) ?_
                obtain ⟨x8, hcl, hf⟩ := wp_b hf
                refine k_Vr0 F hK hH hA hl.1 ⟨Nat.zero_le _, Nat.zero_le _⟩ [.int v2] [] (ctX3_inMindBehind ad yn ym yk yl yt yd yu ye yv x7.2 y0 y1 yc yh v2 hcl) (cwV 1 hts gX3_mist_X3_inMindBehind rfl rfl rfl hdVX3_inMindBehind ⟨Nat.le_of_ble_eq_true rfl, Nat.le_of_ble_eq_true rfl⟩) dX3_mist_84 0 rfl rfl rfl rfl rfl (Nat.le_of_ble_eq_true rfl) rfl (fun H locs hH => ?_)
                have hH : Hs D A s.heap (wMn cI cJ cQ ad yn x8 yk yl yt yd yu ye yv x7.2 y0 y1 yc yh) H locs := hH
                refine W.eq (g2 := F0 m 87 ls [.ref (ad 9)]) rfl ?_
                refine lv_astore (lv' := [(10, .ref (ad 9)), (8, .long 0), (6, .long x7.1), (0, .ref (ad 0)), (1, .int v1), (2, .int v2), (3, .int v3), (4, .int v4), (5, .int v5)]) hx hb dX3_mist_87 hl (by decide) rfl (fun ls hl => ?_)
                refine lv_iconst (v := 0) hx hb dX3_mist_89 (by decide) ?_
                refine lv_istore (lv' := [(11, .int 0), (10, .ref (ad 9)), (8, .long 0), (6, .long x7.1), (0, .ref (ad 0)), (1, .int v1), (2, .int v2), (3, .int v3), (4, .int v4), (5, .int v5)]) hx hb dX3_mist_90 hl (by decide) rfl (fun ls hl => ?_)
                have LP : ∀ (Φ : (Int64 × LandT) → Prop), (∀ (t12 : Int64) (t13 : LandT) (H : Heap) (locs : List Loc) (ls : Array Slot), Φ ((t12, t13)) → Hs D A s.heap (wMn cI cJ cQ ad yn t13 yk yl yt yd yu ye yv x7.2 y0 y1 yc yh) H locs → lv_has ls 12 [(5, .int v5), (6, .long x7.1), (8, .long t12)] → W p l e rmX3_mist s m args below meth c H locs 0 0 Q (F0 m 148 ls [])) → ∀ (n : Nat) (t9 : Int64) (t10 : Int32) (t11 : LandT) (H : Heap) (locs : List Loc) (ls : Array Slot), wpO (lp (bX3_mist_92 v1 v2 v4 yn x7) n (t9, t10, t11)) Φ → Hs D A s.heap (wMn cI cJ cQ ad yn t11 yk yl yt yd yu ye yv x7.2 y0 y1 yc yh) H locs → lv_has ls 12 [(0, .ref (ad 0)), (1, .int v1), (2, .int v2), (4, .int v4), (5, .int v5), (6, .long x7.1), (8, .long t9), (10, .ref (ad 9)), (11, .int t10)] → W p l e rmX3_mist s m args below meth c H locs 0 0 Q (F0 m 92 ls []) := by
                  intro Φ EX n
                  induction n with
                  | zero =>
                    intro t9 t10 t11 H locs ls hf hH hl
                    exact (wp_l0 hf).elim
                  | succ n ih =>
                    intro t9 t10 t11 H locs ls hf hH hl
                    have hf := wp_l hf
                    refine lv_iload hx hb dX3_mist_92 (lv_at hl 8 rfl) ?_
                    refine lv_iload_n hx hb dX3_mist_94 rfl (lv_at hl 2 rfl) ?_
                    refine lv_icmp_gt (tgt := 148) hx hb dX3_mist_95 (by decide) (fun hc => ?_) (fun hc => ?_)
                    · have hf := wp_t hc hf
                      have hw := wp_out hf
                      exact EX _ _ _ _ _ hw hH (lv_sub hl [4, 5, 6] rfl)
                    · have hf := wp_f hc hf
                      refine lv_aload hx hb dX3_mist_98 (lv_at hl 7 rfl) ?_
                      refine lv_iconst (v := 0) hx hb dX3_mist_100 (by decide) ?_
                      refine lv_aload_n hx hb dX3_mist_101 rfl (lv_at hl 0 rfl) ?_
                      refine k_get (v := .ref (ad 1)) F hK hH 0 inX3_mist_X3 0 mbX3_mist_f10 dX3_mist_102 rfl rfl (by decide) rfl ?_
                      refine k_get (v := .int (gE yn)) F hK hH 1 inX3_mist_X0 9 mbX3_mist_f152 dX3_mist_105 rfl rfl (by decide) rfl ?_
                      refine lv_iconst (v := 3) hx hb dX3_mist_108 (by decide) ?_
                      refine lv_iload hx hb dX3_mist_109 (lv_at hl 8 rfl) ?_
                      refine lv_imul hx hb dX3_mist_111 ?_
                      refine lv_isub hx hb dX3_mist_112 ?_
                      refine k_max F hl.1 mbX3_mist_m244 mbX3_mist_max1 mbX3_mist_max2 mbX3_mist_max3 (Nat.le_of_ble_eq_true rfl) (Nat.le_of_ble_eq_true rfl) ⟨Nat.zero_le _, Nat.zero_le _⟩ dX3_mist_113 ?_
                      refine W.eq (g2 := F0 m 116 ls [.int (imax 0 ((gE yn) - (3 * t10))), .ref (ad 9)]) rfl ?_
                      refine k_put (v := .int (imax 0 ((gE yn) - (3 * t10)))) F hK hH 9 inX3_mist_X0 tyX0 tyX0_ok nmX0 9 mbX3_mist_f152 dX3_mist_116 rfl rfl (by decide) rfl rfl rfl (Nat.le_of_ble_eq_true rfl) (fun H locs hH => ?_)
                      have hH : Hs D A s.heap (wMn cI cJ cQ ad yn (gH t11, gR t11, gK t11, gF t11, gP t11, gV t11, gQ t11, gN t11, gD t11, imax 0 ((gE yn) - (3 * t10)), gT t11) yk yl yt yd yu ye yv x7.2 y0 y1 yc yh) H locs := hH
                      refine lv_aload hx hb dX3_mist_119 (lv_at hl 7 rfl) ?_
                      refine lv_iload_n hx hb dX3_mist_121 rfl (lv_at hl 1 rfl) ?_
                      obtain ⟨x14, hcl, hf⟩ := wp_b hf
                      refine k_Vi F hK hH hA hl.1 ⟨Nat.zero_le _, Nat.zero_le _⟩ [9, 10, 11, 12, 13, 14, 15, 16] [.int v1] [] (ctX0_verdictFrom (fun k => ad (9 + k)) (gH t11, gR t11, gK t11, gF t11, gP t11, gV t11, gQ t11, gN t11, gD t11, imax 0 ((gE yn) - (3 * t10)), gT t11) v1 hcl) (cwV 1 hts gX3_mist_X0_verdictFrom rfl rfl rfl hdVX0_verdictFrom ⟨Nat.le_of_ble_eq_true rfl, Nat.le_of_ble_eq_true rfl⟩) dX3_mist_122 9 rfl rfl rfl rfl rfl (Nat.le_of_ble_eq_true rfl) rfl rfl (by decide) (fun H locs hH => ?_)
                      have hH : Hs D A s.heap (wMn cI cJ cQ ad yn (gH t11, gR t11, gK t11, gF t11, gP t11, gV t11, gQ t11, gN t11, gD t11, imax 0 ((gE yn) - (3 * t10)), gT t11) yk yl yt yd yu ye yv x7.2 y0 y1 yc yh) H locs := hH
                      refine lv_iload hx hb dX3_mist_125 (lv_at hl 3 rfl) ?_
                      refine lv_icmp_ne (tgt := 142) hx hb dX3_mist_127 (by decide) (fun hc => ?_) (fun hc => ?_)
                      · have hf := wp_f hc hf
                        refine lv_iinc (v := t10 + 1) (lv' := [(11, .int (t10 + 1)), (0, .ref (ad 0)), (1, .int v1), (2, .int v2), (4, .int v4), (5, .int v5), (6, .long x7.1), (8, .long t9), (10, .ref (ad 9))]) hx hb dX3_mist_142 hl (k := 8) rfl rfl (by decide) rfl (fun ls hl => ?_)
                        refine lv_goto (tgt := 92) hx hb dX3_mist_145 (by decide) ?_
                        have hw := wp_in hf
                        exact ih _ _ _ _ _ _ hw hH (lv_sub hl [1, 2, 3, 4, 5, 6, 7, 8, 0] rfl)
                      · have hf := wp_t hc hf
                        refine lv_lload hx hb dX3_mist_130 (lv_at hl 6 rfl) ?_
                        refine lv_aload_n hx hb dX3_mist_132 rfl (lv_at hl 0 rfl) ?_
                        refine k_get (v := .ref (ad 31)) F hK hH 0 inX3_mist_X3 8 mbX3_mist_f46 dX3_mist_133 rfl rfl (by decide) rfl ?_
                        refine lv_iload hx hb dX3_mist_136 (lv_at hl 8 rfl) ?_
                        obtain ⟨hi, hf⟩ := wp_n hf
                        refine k_lald (f := x7.2) (n := 8) F hK hH 31 dX3_mist_138 hi rfl ?_
                        refine lv_ladd hx hb dX3_mist_139 ?_
                        refine lv_lstore (lv' := [(8, .long (t9 + (x7.2 (Int32.toNatClampNeg t10)))), (0, .ref (ad 0)), (1, .int v1), (2, .int v2), (4, .int v4), (5, .int v5), (6, .long x7.1), (10, .ref (ad 9)), (11, .int t10)]) hx hb dX3_mist_140 hl (by decide) rfl (fun ls hl => ?_)
                        refine lv_iinc (v := t10 + 1) (lv' := [(11, .int (t10 + 1)), (8, .long (t9 + (x7.2 (Int32.toNatClampNeg t10)))), (0, .ref (ad 0)), (1, .int v1), (2, .int v2), (4, .int v4), (5, .int v5), (6, .long x7.1), (10, .ref (ad 9))]) hx hb dX3_mist_142 hl (k := 8) rfl rfl (by decide) rfl (fun ls hl => ?_)
                        refine lv_goto (tgt := 92) hx hb dX3_mist_145 (by decide) ?_
                        have hw := wp_in hf
                        exact ih _ _ _ _ _ _ hw hH (lv_sub hl [2, 3, 4, 5, 6, 7, 1, 8, 0] rfl)
                refine LP _ (fun t12 t13 H locs ls hf hH hl => ?_) fu _ _ _ _ _ _ (wp_bb hf) hH (lv_sub hl [4, 5, 6, 8, 9, 3, 2, 1, 0] rfl)
                refine lv_lload hx hb dX3_mist_148 (lv_at hl 2 rfl) ?_
                refine lv_lload hx hb dX3_mist_150 (lv_at hl 1 rfl) ?_
                refine lv_iload hx hb dX3_mist_152 (lv_at hl 0 rfl) ?_
                obtain ⟨x15, hcl, hf⟩ := wp_b hf
                refine k_Sl F hK hH hA hl.1 ⟨Nat.zero_le _, Nat.zero_le _⟩ [] [.long t12, .long x7.1, .int v5] [] (ctX3_partOf t12 x7.1 v5 hcl) (va_cwS 3 hts gX3_mist_X3_partOf rfl rfl rfl hdSX3_partOf ⟨Nat.le_of_ble_eq_true rfl, Nat.le_of_ble_eq_true rfl⟩) dX3_mist_154 rfl rfl (Nat.le_of_ble_eq_true rfl) rfl rfl (by decide) (fun H locs hH => ?_)
                have hH : Hs D A s.heap (wMn cI cJ cQ ad yn t13 yk yl yt yd yu ye yv x7.2 y0 y1 yc yh) H locs := hH
                have hrs := wp_s hf
                subst hrs
                exact RET H locs ls 157 dX3_mist_157 hH
              · have hf := wp_t hc hf
                refine lv_aload_n hx hb dX3_mist_64 rfl (lv_at hl 0 rfl) ?_
                refine lv_bipush (v := (-2)) hx hb dX3_mist_65 (by decide) ?_
                obtain ⟨x16, hcl, hf⟩ := wp_b hf
                refine k_Vl0 F hK hH hA hl.1 ⟨Nat.zero_le _, Nat.zero_le _⟩ [.int (-2)] [] (ctX3_refuseLong ad yn ym yk yl yt yd yu ye yv yo y0 y1 yc yh (-2) hcl) (cwV 1 hts gX3_mist_X3_refuseLong rfl rfl rfl hdVX3_refuseLong ⟨Nat.le_of_ble_eq_true rfl, Nat.le_of_ble_eq_true rfl⟩) dX3_mist_67 0 rfl rfl rfl rfl rfl (Nat.le_of_ble_eq_true rfl) rfl (fun H locs hH => ?_)
                have hH : Hs D A s.heap (wMn cI cJ cQ ad yn ym yk yl yt yd yu x16.2 yv yo y0 y1 yc yh) H locs := hH
                refine W.eq (g2 := F0 m 70 ls [.long x16.1]) rfl ?_
                have hrs := wp_s hf
                subst hrs
                exact RET H locs ls 70 dX3_mist_70 hH
          · have hf := wp_f hc hf
            refine lv_aload_n hx hb dX3_mist_41 rfl (lv_at hl 0 rfl) ?_
            refine lv_bipush (v := (-6)) hx hb dX3_mist_42 (by decide) ?_
            obtain ⟨x17, hcl, hf⟩ := wp_b hf
            refine k_Vl0 F hK hH hA hl.1 ⟨Nat.zero_le _, Nat.zero_le _⟩ [.int (-6)] [] (ctX3_refuseLong ad yn ym yk yl yt yd yu ye yv yo y0 y1 yc yh (-6) hcl) (cwV 1 hts gX3_mist_X3_refuseLong rfl rfl rfl hdVX3_refuseLong ⟨Nat.le_of_ble_eq_true rfl, Nat.le_of_ble_eq_true rfl⟩) dX3_mist_44 0 rfl rfl rfl rfl rfl (Nat.le_of_ble_eq_true rfl) rfl (fun H locs hH => ?_)
            have hH : Hs D A s.heap (wMn cI cJ cQ ad yn ym yk yl yt yd yu x17.2 yv yo y0 y1 yc yh) H locs := hH
            refine W.eq (g2 := F0 m 47 ls [.long x17.1]) rfl ?_
            have hrs := wp_s hf
            subst hrs
            exact RET H locs ls 47 dX3_mist_47 hH
      · have hf := wp_f hc hf
        refine lv_aload_n hx hb dX3_mist_22 rfl (lv_at hl 0 rfl) ?_
        refine lv_bipush (v := (-4)) hx hb dX3_mist_23 (by decide) ?_
        obtain ⟨x18, hcl, hf⟩ := wp_b hf
        refine k_Vl0 F hK hH hA hl.1 ⟨Nat.zero_le _, Nat.zero_le _⟩ [.int (-4)] [] (ctX3_refuseLong ad yn ym yk yl yt yd yu ye yv yo y0 y1 yc yh (-4) hcl) (cwV 1 hts gX3_mist_X3_refuseLong rfl rfl rfl hdVX3_refuseLong ⟨Nat.le_of_ble_eq_true rfl, Nat.le_of_ble_eq_true rfl⟩) dX3_mist_25 0 rfl rfl rfl rfl rfl (Nat.le_of_ble_eq_true rfl) rfl (fun H locs hH => ?_)
        have hH : Hs D A s.heap (wMn cI cJ cQ ad yn ym yk yl yt yd yu x18.2 yv yo y0 y1 yc yh) H locs := hH
        refine W.eq (g2 := F0 m 28 ls [.long x18.1]) rfl ?_
        have hrs := wp_s hf
        subst hrs
        exact RET H locs ls 28 dX3_mist_28 hH
  · have hf := wp_t hc hf
    refine lv_aload_n hx hb dX3_mist_7 rfl (lv_at hl 0 rfl) ?_
    refine lv_iconst (v := (-1)) hx hb dX3_mist_8 (by decide) ?_
    obtain ⟨x19, hcl, hf⟩ := wp_b hf
    refine k_Vl0 F hK hH hA hl.1 ⟨Nat.zero_le _, Nat.zero_le _⟩ [.int (-1)] [] (ctX3_refuseLong ad yn ym yk yl yt yd yu ye yv yo y0 y1 yc yh (-1) hcl) (cwV 1 hts gX3_mist_X3_refuseLong rfl rfl rfl hdVX3_refuseLong ⟨Nat.le_of_ble_eq_true rfl, Nat.le_of_ble_eq_true rfl⟩) dX3_mist_9 0 rfl rfl rfl rfl rfl (Nat.le_of_ble_eq_true rfl) rfl (fun H locs hH => ?_)
    have hH : Hs D A s.heap (wMn cI cJ cQ ad yn ym yk yl yt yd yu x19.2 yv yo y0 y1 yc yh) H locs := hH
    refine W.eq (g2 := F0 m 12 ls [.long x19.1]) rfl ?_
    have hrs := wp_s hf
    subst hrs
    exact RET H locs ls 12 dX3_mist_12 hH

def bX3_sumOf_10 (r : (Nat → Int32)) (nn : Nat) : (Int32 × Int32) → Option ((Int32 × Int32) ⊕ (Int32)) := fun ((t1, t2) : Int32 × Int32) =>
  if (nI nn) ≤ t2 then
    some (.inr t1)
  else
    if ob t2 nn then none else
    some (.inl (t1 + (r (Int32.toNatClampNeg t2)), t2 + 1))

def fX3_sumOf (nn : Nat) (r : (Nat → Int32)) : Option (Int32) :=
  Option.bind (lp (bX3_sumOf_10 r nn) fu (0, 0)) fun (t3 : Int32) =>
  some t3

def rmX3_sumOf : Room := { frames := 0, cells := 0, slots := 0, locals := 0 }
theorem hdSX3_sumOf : yX3_sumOf.cls ≠ "java/lang/invoke/MethodHandle" ∧ yX3_sumOf.cls ≠ "java/lang/invoke/VarHandle" ∧ (parseMethodDescriptor yX3_sumOf.desc).map (fun d => d.parameters.length) = some 1 := by decide +kernel
set_option maxHeartbeats 4000000 in
set_option maxRecDepth 100000 in
theorem ctX3_sumOf {l : Launch} {D : va_G} {cI cJ cQ : ClassId} (da : Nat) (nn : Nat) (r : (Nat → Int32))  {res : Int32} (h : fX3_sumOf nn r = some res) : CtI l D cI cJ cQ yX3_sumOf wsX3_sumOf rmX3_sumOf [.ref da] (wAr cI da nn r) res (wAr cI da nn r) := by
  refine ctI_of .int (cc := cX3_sumOf) (maxL := 6) (by decide) rfl (Nat.le_of_ble_eq_true rfl) ?_
  intro p e s m args below meth c A Q ls F hK hA RET hH hl
  obtain ⟨hx, hb, hml, hown, hts⟩ := id F
  have hl : lv_has ls 6 [(0, .ref da)] := hl
  have hf : wpO (fX3_sumOf nn r) (fun v => v = res) := ⟨_, h, rfl⟩
  obtain ⟨H, eH⟩ : ∃ H, H = s.heap := ⟨_, rfl⟩
  obtain ⟨locs, eL⟩ : ∃ locs : List Loc, locs = [] := ⟨_, rfl⟩
  have hH : Hs D A s.heap (wAr cI da nn r) H locs := by rw [eH, eL]; exact hH
  rw [← eL]
  suffices hgo : W p l e rmX3_sumOf s m args below meth c H locs 0 0 Q (F0 m 0 ls []) by rw [eH] at hgo; exact hgo
  clear eH eL
  refine lv_iconst (v := 0) hx hb dX3_sumOf_0 (by decide) ?_
  refine lv_istore_n (lv' := [(1, .int 0), (0, .ref da)]) hx hb dX3_sumOf_1 rfl hl (by decide) rfl (fun ls hl => ?_)
  refine lv_aload_n hx hb dX3_sumOf_2 rfl (lv_at hl 1 rfl) ?_
  refine lv_astore_n (lv' := [(2, .ref da), (1, .int 0), (0, .ref da)]) hx hb dX3_sumOf_3 rfl hl (by decide) rfl (fun ls hl => ?_)
  refine lv_aload_n hx hb dX3_sumOf_4 rfl (lv_at hl 0 rfl) ?_
  refine k_alen F hK hH 0 dX3_sumOf_5 rfl ?_
  refine lv_istore_n (lv' := [(3, .int (nI nn)), (2, .ref da), (1, .int 0), (0, .ref da)]) hx hb dX3_sumOf_6 rfl hl (by decide) rfl (fun ls hl => ?_)
  refine lv_iconst (v := 0) hx hb dX3_sumOf_7 (by decide) ?_
  refine lv_istore (lv' := [(4, .int 0), (3, .int (nI nn)), (2, .ref da), (1, .int 0), (0, .ref da)]) hx hb dX3_sumOf_8 hl (by decide) rfl (fun ls hl => ?_)
  have LP : ∀ (Φ : (Int32) → Prop), (∀ (t3 : Int32) (H : Heap) (locs : List Loc) (ls : Array Slot), Φ (t3) → Hs D A s.heap (wAr cI da nn r) H locs → lv_has ls 6 [(1, .int t3)] → W p l e rmX3_sumOf s m args below meth c H locs 0 0 Q (F0 m 33 ls [])) → ∀ (n : Nat) (t1 : Int32) (t2 : Int32) (H : Heap) (locs : List Loc) (ls : Array Slot), wpO (lp (bX3_sumOf_10 r nn) n (t1, t2)) Φ → Hs D A s.heap (wAr cI da nn r) H locs → lv_has ls 6 [(1, .int t1), (2, .ref da), (3, .int (nI nn)), (4, .int t2)] → W p l e rmX3_sumOf s m args below meth c H locs 0 0 Q (F0 m 10 ls []) := by
    intro Φ EX n
    induction n with
    | zero =>
      intro t1 t2 H locs ls hf hH hl
      exact (wp_l0 hf).elim
    | succ n ih =>
      intro t1 t2 H locs ls hf hH hl
      have hf := wp_l hf
      refine lv_iload hx hb dX3_sumOf_10 (lv_at hl 3 rfl) ?_
      refine lv_iload_n hx hb dX3_sumOf_12 rfl (lv_at hl 2 rfl) ?_
      refine lv_icmp_ge (tgt := 33) hx hb dX3_sumOf_13 (by decide) (fun hc => ?_) (fun hc => ?_)
      · have hf := wp_t hc hf
        have hw := wp_out hf
        exact EX _ _ _ _ hw hH (lv_sub hl [0] rfl)
      · have hf := wp_f hc hf
        refine lv_aload_n hx hb dX3_sumOf_16 rfl (lv_at hl 1 rfl) ?_
        refine lv_iload hx hb dX3_sumOf_17 (lv_at hl 3 rfl) ?_
        obtain ⟨hi, hf⟩ := wp_n hf
        refine k_iald (f := r) (n := nn) F hK hH 0 dX3_sumOf_19 hi rfl ?_
        refine lv_istore (lv' := [(5, .int (r (Int32.toNatClampNeg t2))), (1, .int t1), (2, .ref da), (3, .int (nI nn)), (4, .int t2)]) hx hb dX3_sumOf_20 hl (by decide) rfl (fun ls hl => ?_)
        refine lv_iload_n hx hb dX3_sumOf_22 rfl (lv_at hl 1 rfl) ?_
        refine lv_iload hx hb dX3_sumOf_23 (lv_at hl 0 rfl) ?_
        refine lv_iadd hx hb dX3_sumOf_25 ?_
        refine lv_istore_n (lv' := [(1, .int (t1 + (r (Int32.toNatClampNeg t2)))), (5, .int (r (Int32.toNatClampNeg t2))), (2, .ref da), (3, .int (nI nn)), (4, .int t2)]) hx hb dX3_sumOf_26 rfl hl (by decide) rfl (fun ls hl => ?_)
        refine lv_iinc (v := t2 + 1) (lv' := [(4, .int (t2 + 1)), (1, .int (t1 + (r (Int32.toNatClampNeg t2)))), (5, .int (r (Int32.toNatClampNeg t2))), (2, .ref da), (3, .int (nI nn))]) hx hb dX3_sumOf_27 hl (k := 4) rfl rfl (by decide) rfl (fun ls hl => ?_)
        refine lv_goto (tgt := 10) hx hb dX3_sumOf_30 (by decide) ?_
        have hw := wp_in hf
        exact ih _ _ _ _ _ hw hH (lv_sub hl [1, 3, 4, 0] rfl)
  refine LP _ (fun t3 H locs ls hf hH hl => ?_) fu _ _ _ _ _ (wp_bb hf) hH (lv_sub hl [3, 2, 1, 0] rfl)
  refine lv_iload_n hx hb dX3_sumOf_33 rfl (lv_at hl 0 rfl) ?_
  have hrs := wp_s hf
  subst hrs
  exact RET H locs ls 34 dX3_sumOf_34 rfl hH

def fX3_mean (v1 : Int32) (yn : LandT) (ye : (Nat → Int32)) : Option (Int64 × (Nat → Int32)) :=
  Option.bind (fX3_isEither v1) fun x1 =>
  if x1 = 0 then
    Option.bind (fX3_refuseLong (-2) ye) fun x4 =>
    some (x4.1, x4.2)
  else
    Option.bind (fX3_sumOf 16 (gH yn)) fun x2 =>
    Option.bind (fX3_partOf (Int32.toInt64 x2) 16 v1) fun x3 =>
    some (x3, ye)

def rmX3_mean : Room := { frames := 2, cells := 0, slots := 0, locals := 58 }
theorem mbX3_mean_f10 : Cond.fieldLink RX3 10 (TX3 0).1 (TX3 0).2.1 (TX3 0).2.2.1 ∈ wsX3_mean := by decide +kernel
theorem inX3_mean_X3 : ∀ w ∈ wsX30, w ∈ wsX3_mean := by decide +kernel
theorem mbX3_mean_f118 : Cond.fieldLink RX3 118 (TX0 0).1 (TX0 0).2.1 (TX0 0).2.2.1 ∈ wsX3_mean := by decide +kernel
theorem inX3_mean_X0 : ∀ w ∈ wsX00, w ∈ wsX3_mean := by decide +kernel
theorem mbX3_mean_c255 : Cond.constantLong RX3 255 16 ∈ wsX3_mean := by decide +kernel
theorem hdVX3_mean : yX3_mean.cls = RX3 ∧ yX3_mean.cls ≠ "java/lang/invoke/MethodHandle" ∧ yX3_mean.cls ≠ "java/lang/invoke/VarHandle" ∧ (parseMethodDescriptor yX3_mean.desc).map (fun d => d.parameters.length) = some 1 := by decide +kernel
set_option maxHeartbeats 4000000 in
set_option maxRecDepth 100000 in
theorem ctX3_mean {l : Launch} {D : va_G} {cI cJ cQ : ClassId} (ad : Nat → Nat) (yn : LandT) (ym : LandT) (yk : LandT) (yl : (Nat → Int32)) (yt : Int32) (yd : Int32) (yu : (Nat → Int32)) (ye : (Nat → Int32)) (yv : (Nat → Int32)) (yo : (Nat → Int64)) (y0 : (Nat → Int32)) (y1 : (Nat → Int32)) (yc : Int32) (yh : Int32) (v1 : Int32) {res : Int64 × (Nat → Int32)} (h : fX3_mean v1 yn ye = some res) : CtL l D cI cJ cQ yX3_mean wsX3_mean rmX3_mean [.ref (ad 0), .int v1] (wMn cI cJ cQ ad yn ym yk yl yt yd yu ye yv yo y0 y1 yc yh) res.1 (wMn cI cJ cQ ad yn ym yk yl yt yd yu res.2 yv yo y0 y1 yc yh) := by
  refine ctL_of (cc := cX3_mean) (maxL := 2) (by decide) rfl (Nat.le_of_ble_eq_true rfl) ?_
  intro p e s m args below meth c A Q ls F hK hA RET hH hl
  obtain ⟨hx, hb, hml, hown, hts⟩ := id F
  have hl : lv_has ls 2 [(0, .ref (ad 0)), (1, .int v1)] := hl
  have hf : wpO (fX3_mean v1 yn ye) (fun v => v = res) := ⟨_, h, rfl⟩
  obtain ⟨H, eH⟩ : ∃ H, H = s.heap := ⟨_, rfl⟩
  obtain ⟨locs, eL⟩ : ∃ locs : List Loc, locs = [] := ⟨_, rfl⟩
  have hH : Hs D A s.heap (wMn cI cJ cQ ad yn ym yk yl yt yd yu ye yv yo y0 y1 yc yh) H locs := by rw [eH, eL]; exact hH
  rw [← eL]
  suffices hgo : W p l e rmX3_mean s m args below meth c H locs 0 0 Q (F0 m 0 ls []) by rw [eH] at hgo; exact hgo
  clear eH eL
  refine lv_iload_n hx hb dX3_mean_0 rfl (lv_at hl 1 rfl) ?_
  obtain ⟨x1, hcl, hf⟩ := wp_b hf
  refine k_Si F hK hH hA hl.1 ⟨Nat.zero_le _, Nat.zero_le _⟩ [] [.int v1] [] (ctX3_isEither v1 hcl) (va_cwS 1 hts gX3_mean_X3_isEither rfl rfl rfl hdSX3_isEither ⟨Nat.le_of_ble_eq_true rfl, Nat.le_of_ble_eq_true rfl⟩) dX3_mean_1 rfl rfl (Nat.le_of_ble_eq_true rfl) rfl rfl (by decide) (fun H locs hH => ?_)
  have hH : Hs D A s.heap (wMn cI cJ cQ ad yn ym yk yl yt yd yu ye yv yo y0 y1 yc yh) H locs := hH
  refine lv_if_ne (tgt := 14) hx hb dX3_mean_4 (by decide) (fun hc => ?_) (fun hc => ?_)
  · have hf := wp_f hc hf
    refine lv_aload_n hx hb dX3_mean_14 rfl (lv_at hl 0 rfl) ?_
    refine k_get (v := .ref (ad 1)) F hK hH 0 inX3_mean_X3 0 mbX3_mean_f10 dX3_mean_15 rfl rfl (by decide) rfl ?_
    refine k_get (v := .ref (ad 2)) F hK hH 1 inX3_mean_X0 0 mbX3_mean_f118 dX3_mean_18 rfl rfl (by decide) rfl ?_
    obtain ⟨x2, hcl, hf⟩ := wp_b hf
    refine k_Si F hK hH hA hl.1 ⟨Nat.zero_le _, Nat.zero_le _⟩ [2] [.ref (ad 2)] [] (ctX3_sumOf (ad 2) 16 (gH yn) hcl) (va_cwS 1 hts gX3_mean_X3_sumOf rfl rfl rfl hdSX3_sumOf ⟨Nat.le_of_ble_eq_true rfl, Nat.le_of_ble_eq_true rfl⟩) dX3_mean_21 rfl rfl (Nat.le_of_ble_eq_true rfl) rfl rfl (by decide) (fun H locs hH => ?_)
    have hH : Hs D A s.heap (wMn cI cJ cQ ad yn ym yk yl yt yd yu ye yv yo y0 y1 yc yh) H locs := hH
    refine lv_i2l (v := Int32.toInt64 x2) hx hb dX3_mean_24 rfl ?_
    refine lv_ldc2 (v := 16) hx hb hown (hts _ mbX3_mean_c255) dX3_mean_25 ?_
    refine lv_iload_n hx hb dX3_mean_28 rfl (lv_at hl 1 rfl) ?_
    obtain ⟨x3, hcl, hf⟩ := wp_b hf
    refine k_Sl F hK hH hA hl.1 ⟨Nat.zero_le _, Nat.zero_le _⟩ [] [.long (Int32.toInt64 x2), .long 16, .int v1] [] (ctX3_partOf (Int32.toInt64 x2) 16 v1 hcl) (va_cwS 3 hts gX3_mean_X3_partOf rfl rfl rfl hdSX3_partOf ⟨Nat.le_of_ble_eq_true rfl, Nat.le_of_ble_eq_true rfl⟩) dX3_mean_29 rfl rfl (Nat.le_of_ble_eq_true rfl) rfl rfl (by decide) (fun H locs hH => ?_)
    have hH : Hs D A s.heap (wMn cI cJ cQ ad yn ym yk yl yt yd yu ye yv yo y0 y1 yc yh) H locs := hH
    have hrs := wp_s hf
    subst hrs
    exact RET H locs ls 32 dX3_mean_32 hH
  · have hf := wp_t hc hf
    refine lv_aload_n hx hb dX3_mean_7 rfl (lv_at hl 0 rfl) ?_
    refine lv_bipush (v := (-2)) hx hb dX3_mean_8 (by decide) ?_
    obtain ⟨x4, hcl, hf⟩ := wp_b hf
    refine k_Vl0 F hK hH hA hl.1 ⟨Nat.zero_le _, Nat.zero_le _⟩ [.int (-2)] [] (ctX3_refuseLong ad yn ym yk yl yt yd yu ye yv yo y0 y1 yc yh (-2) hcl) (cwV 1 hts gX3_mean_X3_refuseLong rfl rfl rfl hdVX3_refuseLong ⟨Nat.le_of_ble_eq_true rfl, Nat.le_of_ble_eq_true rfl⟩) dX3_mean_10 0 rfl rfl rfl rfl rfl (Nat.le_of_ble_eq_true rfl) rfl (fun H locs hH => ?_)
    have hH : Hs D A s.heap (wMn cI cJ cQ ad yn ym yk yl yt yd yu x4.2 yv yo y0 y1 yc yh) H locs := hH
    refine W.eq (g2 := F0 m 13 ls [.long x4.1]) rfl ?_
    have hrs := wp_s hf
    subst hrs
    exact RET H locs ls 13 dX3_mean_13 hH

def bX3_goesByRow_2 (v2 : Int32) (yu : (Nat → Int32)) (yc : Int32) : (Int32 × LandT) → Option ((Int32 × LandT) ⊕ ((Int32 × LandT) ⊕ (LandT))) := fun ((t1, t2) : Int32 × LandT) =>
  if yc ≤ t1 then
    some (.inr (.inr t2))
  else
    Option.bind (fX0_verdictFrom v2 t2) fun x4 =>
    if ob t1 16 then none else
    if x4 = (yu (Int32.toNatClampNeg t1)) then
      Option.bind (fX0_passHours 1 t2) fun x5 =>
      some (.inl (t1 + 1, x5))
    else
      some (.inr (.inl (0, t2)))

def fX3_goesByRow (v2 : Int32) (ym : LandT) (yu : (Nat → Int32)) (yc : Int32) : Option (Int32 × LandT) :=
  Option.bind (lp (bX3_goesByRow_2 v2 yu yc) fu (0, ym)) (el (fun v => some v) (fun (t3 : LandT) =>
    some (1, t3)))

def rmX3_goesByRow : Room := { frames := 5, cells := 0, slots := 0, locals := 110 }
theorem mbX3_goesByRow_f261 : Cond.fieldLink RX3 261 (TX3 10).1 (TX3 10).2.1 (TX3 10).2.2.1 ∈ wsX3_goesByRow := by decide +kernel
theorem inX3_goesByRow_X3 : ∀ w ∈ wsX30, w ∈ wsX3_goesByRow := by decide +kernel
theorem mbX3_goesByRow_f36 : Cond.fieldLink RX3 36 (TX3 5).1 (TX3 5).2.1 (TX3 5).2.2.1 ∈ wsX3_goesByRow := by decide +kernel
theorem hdVX3_goesByRow : yX3_goesByRow.cls = RX3 ∧ yX3_goesByRow.cls ≠ "java/lang/invoke/MethodHandle" ∧ yX3_goesByRow.cls ≠ "java/lang/invoke/VarHandle" ∧ (parseMethodDescriptor yX3_goesByRow.desc).map (fun d => d.parameters.length) = some 2 := by decide +kernel
set_option maxHeartbeats 4000000 in
set_option maxRecDepth 100000 in
theorem ctX3_goesByRow {l : Launch} {D : va_G} {cI cJ cQ : ClassId} (ad : Nat → Nat) (yn : LandT) (ym : LandT) (yk : LandT) (yl : (Nat → Int32)) (yt : Int32) (yd : Int32) (yu : (Nat → Int32)) (ye : (Nat → Int32)) (yv : (Nat → Int32)) (yo : (Nat → Int64)) (y0 : (Nat → Int32)) (y1 : (Nat → Int32)) (yc : Int32) (yh : Int32) (v2 : Int32) {res : Int32 × LandT} (h : fX3_goesByRow v2 ym yu yc = some res) : CtI l D cI cJ cQ yX3_goesByRow wsX3_goesByRow rmX3_goesByRow [.ref (ad 0), .ref (ad 9), .int v2] (wMn cI cJ cQ ad yn ym yk yl yt yd yu ye yv yo y0 y1 yc yh) res.1 (wMn cI cJ cQ ad yn res.2 yk yl yt yd yu ye yv yo y0 y1 yc yh) := by
  refine ctI_of .boolean (cc := cX3_goesByRow) (maxL := 4) (by decide) rfl (Nat.le_of_ble_eq_true rfl) ?_
  intro p e s m args below meth c A Q ls F hK hA RET hH hl
  obtain ⟨hx, hb, hml, hown, hts⟩ := id F
  have hl : lv_has ls 4 [(0, .ref (ad 0)), (1, .ref (ad 9)), (2, .int v2)] := hl
  have hf : wpO (fX3_goesByRow v2 ym yu yc) (fun v => v = res) := ⟨_, h, rfl⟩
  obtain ⟨H, eH⟩ : ∃ H, H = s.heap := ⟨_, rfl⟩
  obtain ⟨locs, eL⟩ : ∃ locs : List Loc, locs = [] := ⟨_, rfl⟩
  have hH : Hs D A s.heap (wMn cI cJ cQ ad yn ym yk yl yt yd yu ye yv yo y0 y1 yc yh) H locs := by rw [eH, eL]; exact hH
  rw [← eL]
  suffices hgo : W p l e rmX3_goesByRow s m args below meth c H locs 0 0 Q (F0 m 0 ls []) by rw [eH] at hgo; exact hgo
  clear eH eL
  refine lv_iconst (v := 0) hx hb dX3_goesByRow_0 (by decide) ?_
  refine lv_istore_n (lv' := [(3, .int 0), (0, .ref (ad 0)), (1, .ref (ad 9)), (2, .int v2)]) hx hb dX3_goesByRow_1 rfl hl (by decide) rfl (fun ls hl => ?_)
  have LP : ∀ (Φ : ((Int32 × LandT) ⊕ (LandT)) → Prop), (∀ v : Int32 × LandT, Φ (.inl v) → v = res) → (∀ (t3 : LandT) (H : Heap) (locs : List Loc) (ls : Array Slot), Φ (.inr t3) → Hs D A s.heap (wMn cI cJ cQ ad yn t3 yk yl yt yd yu ye yv yo y0 y1 yc yh) H locs → lv_has ls 4 [] → W p l e rmX3_goesByRow s m args below meth c H locs 0 0 Q (F0 m 37 ls [])) → ∀ (n : Nat) (t1 : Int32) (t2 : LandT) (H : Heap) (locs : List Loc) (ls : Array Slot), wpO (lp (bX3_goesByRow_2 v2 yu yc) n (t1, t2)) Φ → Hs D A s.heap (wMn cI cJ cQ ad yn t2 yk yl yt yd yu ye yv yo y0 y1 yc yh) H locs → lv_has ls 4 [(0, .ref (ad 0)), (1, .ref (ad 9)), (2, .int v2), (3, .int t1)] → W p l e rmX3_goesByRow s m args below meth c H locs 0 0 Q (F0 m 2 ls []) := by
    intro Φ hret EX n
    induction n with
    | zero =>
      intro t1 t2 H locs ls hf hH hl
      exact (wp_l0 hf).elim
    | succ n ih =>
      intro t1 t2 H locs ls hf hH hl
      have hf := wp_l hf
      refine lv_iload_n hx hb dX3_goesByRow_2 rfl (lv_at hl 3 rfl) ?_
      refine lv_aload_n hx hb dX3_goesByRow_3 rfl (lv_at hl 0 rfl) ?_
      refine k_get (v := .int yc) F hK hH 0 inX3_goesByRow_X3 10 mbX3_goesByRow_f261 dX3_goesByRow_4 rfl rfl (by decide) rfl ?_
      refine lv_icmp_ge (tgt := 37) hx hb dX3_goesByRow_7 (by decide) (fun hc => ?_) (fun hc => ?_)
      · have hf := wp_t hc hf
        have hw := wp_out hf
        exact EX _ _ _ _ hw hH (lv_sub hl [] rfl)
      · have hf := wp_f hc hf
        refine lv_aload_n hx hb dX3_goesByRow_10 rfl (lv_at hl 1 rfl) ?_
        refine lv_iload_n hx hb dX3_goesByRow_11 rfl (lv_at hl 2 rfl) ?_
        obtain ⟨x4, hcl, hf⟩ := wp_b hf
        refine k_Vi F hK hH hA hl.1 ⟨Nat.zero_le _, Nat.zero_le _⟩ [9, 10, 11, 12, 13, 14, 15, 16] [.int v2] [] (ctX0_verdictFrom (fun k => ad (9 + k)) t2 v2 hcl) (cwV 1 hts gX3_goesByRow_X0_verdictFrom rfl rfl rfl hdVX0_verdictFrom ⟨Nat.le_of_ble_eq_true rfl, Nat.le_of_ble_eq_true rfl⟩) dX3_goesByRow_12 9 rfl rfl rfl rfl rfl (Nat.le_of_ble_eq_true rfl) rfl rfl (by decide) (fun H locs hH => ?_)
        have hH : Hs D A s.heap (wMn cI cJ cQ ad yn t2 yk yl yt yd yu ye yv yo y0 y1 yc yh) H locs := hH
        refine lv_aload_n hx hb dX3_goesByRow_15 rfl (lv_at hl 0 rfl) ?_
        refine k_get (v := .ref (ad 28)) F hK hH 0 inX3_goesByRow_X3 5 mbX3_goesByRow_f36 dX3_goesByRow_16 rfl rfl (by decide) rfl ?_
        refine lv_iload_n hx hb dX3_goesByRow_19 rfl (lv_at hl 3 rfl) ?_
        obtain ⟨hi, hf⟩ := wp_n hf
        refine k_iald (f := yu) (n := 16) F hK hH 28 dX3_goesByRow_20 hi rfl ?_
        refine lv_icmp_eq (tgt := 26) hx hb dX3_goesByRow_21 (by decide) (fun hc => ?_) (fun hc => ?_)
        · have hf := wp_t hc hf
          refine lv_aload_n hx hb dX3_goesByRow_26 rfl (lv_at hl 1 rfl) ?_
          refine lv_iconst (v := 1) hx hb dX3_goesByRow_27 (by decide) ?_
          obtain ⟨x5, hcl, hf⟩ := wp_b hf
          refine k_Vv F hK hH hA hl.1 ⟨Nat.zero_le _, Nat.zero_le _⟩ [9, 10, 11, 12, 13, 14, 15, 16] [.int 1] [] (ctX0_passHours (fun k => ad (9 + k)) t2 1 hcl) (cwV 1 hts gX3_goesByRow_X0_passHours rfl rfl rfl hdVX0_passHours ⟨Nat.le_of_ble_eq_true rfl, Nat.le_of_ble_eq_true rfl⟩) dX3_goesByRow_28 9 rfl rfl rfl rfl rfl (Nat.le_of_ble_eq_true rfl) rfl rfl (by decide) (fun H locs hH => ?_)
          have hH : Hs D A s.heap (wMn cI cJ cQ ad yn x5 yk yl yt yd yu ye yv yo y0 y1 yc yh) H locs := hH
          refine lv_iinc (v := t1 + 1) (lv' := [(3, .int (t1 + 1)), (0, .ref (ad 0)), (1, .ref (ad 9)), (2, .int v2)]) hx hb dX3_goesByRow_31 hl (k := 3) rfl rfl (by decide) rfl (fun ls hl => ?_)
          refine lv_goto (tgt := 2) hx hb dX3_goesByRow_34 (by decide) ?_
          have hw := wp_in hf
          exact ih _ _ _ _ _ hw hH (lv_sub hl [1, 2, 3, 0] rfl)
        · have hf := wp_f hc hf
          refine lv_iconst (v := 0) hx hb dX3_goesByRow_24 (by decide) ?_
          have hrs := hret _ (wp_out hf)
          subst hrs
          exact RET H locs ls 25 dX3_goesByRow_25 (by show narrow .boolean (.int 0) = .int 0; rfl) hH
  refine LP _ (fun v hv => by have h9 := wp_s hv; exact h9) (fun t3 H locs ls hf hH hl => ?_) fu _ _ _ _ _ (wp_bb hf) hH (lv_sub hl [1, 2, 3, 0] rfl)
  refine lv_iconst (v := 1) hx hb dX3_goesByRow_37 (by decide) ?_
  have hrs := wp_s hf
  subst hrs
  exact RET H locs ls 38 dX3_goesByRow_38 (by show narrow .boolean (.int 1) = .int 1; rfl) hH

