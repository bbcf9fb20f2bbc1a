def bX3_sight_54 (v1 : Int32) (v2 : Int32) : (Int32 × Int32 × Int32 × LandT) → Option ((Int32 × Int32 × Int32 × LandT) ⊕ (Int32 × Int32 × LandT)) := fun ((t6, t7, t8, t9) : Int32 × Int32 × Int32 × LandT) =>
  if (60 : Int32) < t8 then
    some (.inr (t6, t7, t9))
  else
    Option.bind (fX0_isSeen v2 v1 t9) fun x13 =>
    Option.bind (if x13 = 0 then
        some (t6, t7)
      else
        if t7 = 0 then
          some (t8, t7 + 1)
        else
          some (t6, t7 + 1)) fun ((t14, t15) : Int32 × Int32) =>
    Option.bind (fX0_passHours 1 t9) fun x16 =>
    some (.inl (t14, t15, t8 + 1, x16))

def fX3_sight (v1 : Int32) (v2 : Int32) (v3 : Int32) (yn : LandT) (ym : LandT) (ye : (Nat → Int32)) : Option (Int32 × LandT × (Nat → Int32)) :=
  Option.bind (fX3_isBranch v1) fun x1 =>
  if x1 = 0 then
    Option.bind (fX3_refuse (-1) ye) fun x2 =>
    some (x2.1, ym, x2.2)
  else
    Option.bind (fX0_hasThing v2 yn) fun x3 =>
    if x3 = 0 then
      Option.bind (fX3_refuse (-1) ye) fun x18 =>
      some (x18.1, ym, x18.2)
    else
      Option.bind (fX3_isEither v3) fun x4 =>
      if x4 = 0 then
        Option.bind (fX3_refuse (-2) ye) fun x17 =>
        some (x17.1, ym, x17.2)
      else
        Option.bind (fX3_inMind yn ym) fun x5 =>
        Option.bind (lp (bX3_sight_54 v1 v2) fu ((-9), 0, 0, x5)) fun ((t10, t11, t12) : Int32 × Int32 × LandT) =>
        if v3 = 0 then
          some (t10, t12, ye)
        else
          some (t11, t12, ye)

def rmX3_sight : Room := { frames := 3, cells := 0, slots := 0, locals := 101 }
theorem mbX3_sight_f10 : Cond.fieldLink RX3 10 (TX3 0).1 (TX3 0).2.1 (TX3 0).2.2.1 ∈ wsX3_sight := by decide +kernel
theorem inX3_sight_X3 : ∀ w ∈ wsX30, w ∈ wsX3_sight := by decide +kernel
theorem hdVX3_sight : yX3_sight.cls = RX3 ∧ yX3_sight.cls ≠ "java/lang/invoke/MethodHandle" ∧ yX3_sight.cls ≠ "java/lang/invoke/VarHandle" ∧ (parseMethodDescriptor yX3_sight.desc).map (fun d => d.parameters.length) = some 3 := by decide +kernel
set_option maxHeartbeats 4000000 in
set_option maxRecDepth 100000 in
theorem ctX3_sight {l : Launch} {D : va_G} {cI cJ cQ : ClassId} (ad : Nat → Nat) (yn : LandT) (ym : LandT) (yk : LandT) (yl : (Nat → Int32)) (yt : Int32) (yd : Int32) (yu : (Nat → Int32)) (ye : (Nat → Int32)) (yv : (Nat → Int32)) (yo : (Nat → Int64)) (y0 : (Nat → Int32)) (y1 : (Nat → Int32)) (yc : Int32) (yh : Int32) (v1 : Int32) (v2 : Int32) (v3 : Int32) {res : Int32 × LandT × (Nat → Int32)} (h : fX3_sight v1 v2 v3 yn ym ye = some res) : CtI l D cI cJ cQ yX3_sight wsX3_sight rmX3_sight [.ref (ad 0), .int v1, .int v2, .int v3] (wMn cI cJ cQ ad yn ym yk yl yt yd yu ye yv yo y0 y1 yc yh) res.1 (wMn cI cJ cQ ad yn res.2.1 yk yl yt yd yu res.2.2 yv yo y0 y1 yc yh) := by
  refine ctI_of .int (cc := cX3_sight) (maxL := 8) (by decide) rfl (Nat.le_of_ble_eq_true rfl) ?_
  intro p e s m args below meth c A Q ls F hK hA RET hH hl
  obtain ⟨hx, hb, hml, hown, hts⟩ := id F
  have hl : lv_has ls 8 [(0, .ref (ad 0)), (1, .int v1), (2, .int v2), (3, .int v3)] := hl
  have hf : wpO (fX3_sight v1 v2 v3 yn ym ye) (fun v => v = res) := ⟨_, h, rfl⟩
  obtain ⟨H, eH⟩ : ∃ H, H = s.heap := ⟨_, rfl⟩
  obtain ⟨locs, eL⟩ : ∃ locs : List Loc, locs = [] := ⟨_, rfl⟩
  have hH : Hs D A s.heap (wMn cI cJ cQ ad yn ym yk yl yt yd yu ye yv yo y0 y1 yc yh) H locs := by rw [eH, eL]; exact hH
  rw [← eL]
  suffices hgo : W p l e rmX3_sight s m args below meth c H locs 0 0 Q (F0 m 0 ls []) by rw [eH] at hgo; exact hgo
  clear eH eL
  refine lv_iload_n hx hb dX3_sight_0 rfl (lv_at hl 1 rfl) ?_
  obtain ⟨x1, hcl, hf⟩ := wp_b hf
  refine k_Si F hK hH hA hl.1 ⟨Nat.zero_le _, Nat.zero_le _⟩ [] [.int v1] [] (ctX3_isBranch v1 hcl) (va_cwS 1 hts gX3_sight_X3_isBranch rfl rfl rfl hdSX3_isBranch ⟨Nat.le_of_ble_eq_true rfl, Nat.le_of_ble_eq_true rfl⟩) dX3_sight_1 rfl rfl (Nat.le_of_ble_eq_true rfl) rfl rfl (by decide) (fun H locs hH => ?_)
  have hH : Hs D A s.heap (wMn cI cJ cQ ad yn ym yk yl yt yd yu ye yv yo y0 y1 yc yh) H locs := hH
  refine lv_if_eq (tgt := 18) hx hb dX3_sight_4 (by decide) (fun hc => ?_) (fun hc => ?_)
  · have hf := wp_t hc hf
    refine lv_aload_n hx hb dX3_sight_18 rfl (lv_at hl 0 rfl) ?_
    refine lv_iconst (v := (-1)) hx hb dX3_sight_19 (by decide) ?_
    obtain ⟨x2, hcl, hf⟩ := wp_b hf
    refine k_Vi0 F hK hH hA hl.1 ⟨Nat.zero_le _, Nat.zero_le _⟩ [.int (-1)] [] (ctX3_refuse ad yn ym yk yl yt yd yu ye yv yo y0 y1 yc yh (-1) hcl) (cwV 1 hts gX3_sight_X3_refuse rfl rfl rfl hdVX3_refuse ⟨Nat.le_of_ble_eq_true rfl, Nat.le_of_ble_eq_true rfl⟩) dX3_sight_20 0 rfl rfl rfl rfl rfl (Nat.le_of_ble_eq_true rfl) rfl (fun H locs hH => ?_)
    have hH : Hs D A s.heap (wMn cI cJ cQ ad yn ym yk yl yt yd yu x2.2 yv yo y0 y1 yc yh) H locs := hH
    refine W.eq (g2 := F0 m 23 ls [.int x2.1]) rfl ?_
    have hrs := wp_s hf
    subst hrs
    exact RET H locs ls 23 dX3_sight_23 rfl hH
  · have hf := wp_f hc hf
    refine lv_aload_n hx hb dX3_sight_7 rfl (lv_at hl 0 rfl) ?_
    refine k_get (v := .ref (ad 1)) F hK hH 0 inX3_sight_X3 0 mbX3_sight_f10 dX3_sight_8 rfl rfl (by decide) rfl ?_
    refine lv_iload_n hx hb dX3_sight_11 rfl (lv_at hl 2 rfl) ?_
    obtain ⟨x3, hcl, hf⟩ := wp_b hf
    refine k_Vi F hK hH hA hl.1 ⟨Nat.zero_le _, Nat.zero_le _⟩ [1, 2, 3, 4, 5, 6, 7, 8] [.int v2] [] (ctX0_hasThing (fun k => ad (1 + k)) yn v2 hcl) (cwV 1 hts gX3_sight_X0_hasThing rfl rfl rfl hdVX0_hasThing ⟨Nat.le_of_ble_eq_true rfl, Nat.le_of_ble_eq_true rfl⟩) dX3_sight_12 1 rfl rfl rfl rfl rfl (Nat.le_of_ble_eq_true rfl) rfl rfl (by decide) (fun H locs hH => ?_)
    have hH : Hs D A s.heap (wMn cI cJ cQ ad yn ym yk yl yt yd yu ye yv yo y0 y1 yc yh) H locs := hH
    refine lv_if_ne (tgt := 24) hx hb dX3_sight_15 (by decide) (fun hc => ?_) (fun hc => ?_)
    · have hf := wp_f hc hf
      refine lv_iload_n hx hb dX3_sight_24 rfl (lv_at hl 3 rfl) ?_
      obtain ⟨x4, hcl, hf⟩ := wp_b hf
      refine k_Si F hK hH hA hl.1 ⟨Nat.zero_le _, Nat.zero_le _⟩ [] [.int v3] [] (ctX3_isEither v3 hcl) (va_cwS 1 hts gX3_sight_X3_isEither rfl rfl rfl hdSX3_isEither ⟨Nat.le_of_ble_eq_true rfl, Nat.le_of_ble_eq_true rfl⟩) dX3_sight_25 rfl rfl (Nat.le_of_ble_eq_true rfl) rfl rfl (by decide) (fun H locs hH => ?_)
      have hH : Hs D A s.heap (wMn cI cJ cQ ad yn ym yk yl yt yd yu ye yv yo y0 y1 yc yh) H locs := hH
      refine lv_if_ne (tgt := 38) hx hb dX3_sight_28 (by decide) (fun hc => ?_) (fun hc => ?_)
      · have hf := wp_f hc hf
        refine lv_bipush (v := (-9)) hx hb dX3_sight_38 (by decide) ?_
        refine lv_istore (lv' := [(4, .int (-9)), (0, .ref (ad 0)), (1, .int v1), (2, .int v2), (3, .int v3)]) hx hb dX3_sight_40 hl (by decide) rfl (fun ls hl => ?_)
        refine lv_iconst (v := 0) hx hb dX3_sight_42 (by decide) ?_
        refine lv_istore (lv' := [(5, .int 0), (4, .int (-9)), (0, .ref (ad 0)), (1, .int v1), (2, .int v2), (3, .int v3)]) hx hb dX3_sight_43 hl (by decide) rfl (fun ls hl => ?_)
        refine lv_aload_n hx hb dX3_sight_45 rfl (lv_at hl 2 rfl) ?_
        obtain ⟨x5, hcl, hf⟩ := wp_b hf
        refine k_Vr0 F hK hH hA hl.1 ⟨Nat.zero_le _, Nat.zero_le _⟩ [] [] (ctX3_inMind ad yn ym yk yl yt yd yu ye yv yo y0 y1 yc yh hcl) (cwV 0 hts gX3_sight_X3_inMind rfl rfl rfl hdVX3_inMind ⟨Nat.le_of_ble_eq_true rfl, Nat.le_of_ble_eq_true rfl⟩) dX3_sight_46 0 rfl rfl rfl rfl rfl (Nat.le_of_ble_eq_true rfl) rfl (fun H locs hH => ?_)
        have hH : Hs D A s.heap (wMn cI cJ cQ ad yn x5 yk yl yt yd yu ye yv yo y0 y1 yc yh) H locs := hH
        refine W.eq (g2 := F0 m 49 ls [.ref (ad 9)]) rfl ?_
        refine lv_astore (lv' := [(6, .ref (ad 9)), (5, .int 0), (4, .int (-9)), (0, .ref (ad 0)), (1, .int v1), (2, .int v2), (3, .int v3)]) hx hb dX3_sight_49 hl (by decide) rfl (fun ls hl => ?_)
        refine lv_iconst (v := 0) hx hb dX3_sight_51 (by decide) ?_
        refine lv_istore (lv' := [(7, .int 0), (6, .ref (ad 9)), (5, .int 0), (4, .int (-9)), (0, .ref (ad 0)), (1, .int v1), (2, .int v2), (3, .int v3)]) hx hb dX3_sight_52 hl (by decide) rfl (fun ls hl => ?_)
        have LP : ∀ (Φ : (Int32 × Int32 × LandT) → Prop), (∀ (t10 : Int32) (t11 : Int32) (t12 : LandT) (H : Heap) (locs : List Loc) (ls : Array Slot), Φ ((t10, t11, t12)) → Hs D A s.heap (wMn cI cJ cQ ad yn t12 yk yl yt yd yu ye yv yo y0 y1 yc yh) H locs → lv_has ls 8 [(3, .int v3), (4, .int t10), (5, .int t11)] → W p l e rmX3_sight s m args below meth c H locs 0 0 Q (F0 m 100 ls [])) → ∀ (n : Nat) (t6 : Int32) (t7 : Int32) (t8 : Int32) (t9 : LandT) (H : Heap) (locs : List Loc) (ls : Array Slot), wpO (lp (bX3_sight_54 v1 v2) n (t6, t7, t8, t9)) Φ → Hs D A s.heap (wMn cI cJ cQ ad yn t9 yk yl yt yd yu ye yv yo y0 y1 yc yh) H locs → lv_has ls 8 [(1, .int v1), (2, .int v2), (3, .int v3), (4, .int t6), (5, .int t7), (6, .ref (ad 9)), (7, .int t8)] → W p l e rmX3_sight s m args below meth c H locs 0 0 Q (F0 m 54 ls []) := by
          intro Φ EX n
          induction n with
          | zero =>
            intro t6 t7 t8 t9 H locs ls hf hH hl
            exact (wp_l0 hf).elim
          | succ n ih =>
            intro t6 t7 t8 t9 H locs ls hf hH hl
            have hf := wp_l hf
            refine lv_iload hx hb dX3_sight_54 (lv_at hl 6 rfl) ?_
            refine lv_bipush (v := 60) hx hb dX3_sight_56 (by decide) ?_
            refine lv_icmp_gt (tgt := 100) hx hb dX3_sight_58 (by decide) (fun hc => ?_) (fun hc => ?_)
            · have hf := wp_t hc hf
              have hw := wp_out hf
              exact EX _ _ _ _ _ _ hw hH (lv_sub hl [2, 3, 4] rfl)
            · have hf := wp_f hc hf
              refine lv_aload hx hb dX3_sight_61 (lv_at hl 5 rfl) ?_
              refine lv_iload_n hx hb dX3_sight_63 rfl (lv_at hl 1 rfl) ?_
              refine lv_iload_n hx hb dX3_sight_64 rfl (lv_at hl 0 rfl) ?_
              obtain ⟨x13, hcl, hf⟩ := wp_b hf
              refine k_Vi F hK hH hA hl.1 ⟨Nat.zero_le _, Nat.zero_le _⟩ [9, 10, 11, 12, 13, 14, 15, 16] [.int v2, .int v1] [] (ctX0_isSeen (fun k => ad (9 + k)) t9 v2 v1 hcl) (cwV 2 hts gX3_sight_X0_isSeen rfl rfl rfl hdVX0_isSeen ⟨Nat.le_of_ble_eq_true rfl, Nat.le_of_ble_eq_true rfl⟩) dX3_sight_65 9 rfl rfl rfl rfl rfl (Nat.le_of_ble_eq_true rfl) rfl rfl (by decide) (fun H locs hH => ?_)
              have hH : Hs D A s.heap (wMn cI cJ cQ ad yn t9 yk yl yt yd yu ye yv yo y0 y1 yc yh) H locs := hH
              refine join_ (α := Int32 × Int32) (fun Φ => ∀ (t14 : Int32) (t15 : Int32) (H : Heap) (locs : List Loc) (ls : Array Slot), Φ (t14, t15) → Hs D A s.heap (wMn cI cJ cQ ad yn t9 yk yl yt yd yu ye yv yo y0 y1 yc yh) H locs → lv_has ls 8 [(1, .int v1), (2, .int v2), (3, .int v3), (4, .int t14), (5, .int t15), (6, .ref (ad 9)), (7, .int t8)] → W p l e rmX3_sight s m args below meth c H locs 0 0 Q (F0 m 88 ls [])) (wp_bb hf) ?_ ?_
              · intro t14 t15 H locs ls hf hH hl
                refine lv_aload hx hb dX3_sight_88 (lv_at hl 5 rfl) ?_
                refine lv_iconst (v := 1) hx hb dX3_sight_90 (by decide) ?_
                obtain ⟨x16, hcl, hf⟩ := wp_b hf
                refine k_Vv F hK hH hA hl.1 ⟨Nat.zero_le _, Nat.zero_le _⟩ [9, 10, 11, 12, 13, 14, 15, 16] [.int 1] [] (ctX0_passHours (fun k => ad (9 + k)) t9 1 hcl) (cwV 1 hts gX3_sight_X0_passHours rfl rfl rfl hdVX0_passHours ⟨Nat.le_of_ble_eq_true rfl, Nat.le_of_ble_eq_true rfl⟩) dX3_sight_91 9 rfl rfl rfl rfl rfl (Nat.le_of_ble_eq_true rfl) rfl rfl (by decide) (fun H locs hH => ?_)
                have hH : Hs D A s.heap (wMn cI cJ cQ ad yn x16 yk yl yt yd yu ye yv yo y0 y1 yc yh) H locs := hH
                refine lv_iinc (v := t8 + 1) (lv' := [(7, .int (t8 + 1)), (1, .int v1), (2, .int v2), (3, .int v3), (4, .int t14), (5, .int t15), (6, .ref (ad 9))]) hx hb dX3_sight_94 hl (k := 6) rfl rfl (by decide) rfl (fun ls hl => ?_)
                refine lv_goto (tgt := 54) hx hb dX3_sight_97 (by decide) ?_
                have hw := wp_in hf
                exact ih _ _ _ _ _ _ _ hw hH (lv_sub hl [1, 2, 3, 4, 5, 6, 0] rfl)
              · intro Φ JJ hf
                refine lv_if_eq (tgt := 88) hx hb dX3_sight_68 (by decide) (fun hc => ?_) (fun hc => ?_)
                · have hf := wp_t hc hf
                  have hw := wp_s hf
                  exact JJ _ _ _ _ _ hw hH (lv_sub hl [0, 1, 2, 3, 4, 5, 6] rfl)
                · have hf := wp_f hc hf
                  refine lv_iload hx hb dX3_sight_71 (lv_at hl 4 rfl) ?_
                  refine lv_if_ne (tgt := 81) hx hb dX3_sight_73 (by decide) (fun hc => ?_) (fun hc => ?_)
                  · have hf := wp_f hc hf
                    refine lv_iload hx hb dX3_sight_81 (lv_at hl 3 rfl) ?_
                    refine lv_istore (lv' := [(4, .int t6), (1, .int v1), (2, .int v2), (3, .int v3), (5, .int t7), (6, .ref (ad 9)), (7, .int t8)]) hx hb dX3_sight_83 hl (by decide) rfl (fun ls hl => ?_)
                    refine lv_iinc (v := t7 + 1) (lv' := [(5, .int (t7 + 1)), (4, .int t6), (1, .int v1), (2, .int v2), (3, .int v3), (6, .ref (ad 9)), (7, .int t8)]) hx hb dX3_sight_85 hl (k := 4) rfl rfl (by decide) rfl (fun ls hl => ?_)
                    have hw := wp_s hf
                    exact JJ _ _ _ _ _ hw hH (lv_sub hl [2, 3, 4, 1, 0, 5, 6] rfl)
                  · have hf := wp_t hc hf
                    refine lv_iload hx hb dX3_sight_76 (lv_at hl 6 rfl) ?_
                    refine lv_goto (tgt := 83) hx hb dX3_sight_78 (by decide) ?_
                    refine lv_istore (lv' := [(4, .int t8), (1, .int v1), (2, .int v2), (3, .int v3), (5, .int t7), (6, .ref (ad 9)), (7, .int t8)]) hx hb dX3_sight_83 hl (by decide) rfl (fun ls hl => ?_)
                    refine lv_iinc (v := t7 + 1) (lv' := [(5, .int (t7 + 1)), (4, .int t8), (1, .int v1), (2, .int v2), (3, .int v3), (6, .ref (ad 9)), (7, .int t8)]) hx hb dX3_sight_85 hl (k := 4) rfl rfl (by decide) rfl (fun ls hl => ?_)
                    have hw := wp_s hf
                    exact JJ _ _ _ _ _ hw hH (lv_sub hl [2, 3, 4, 1, 0, 5, 6] rfl)
        refine LP _ (fun t10 t11 t12 H locs ls hf hH hl => ?_) fu _ _ _ _ _ _ _ (wp_bb hf) hH (lv_sub hl [5, 6, 7, 3, 2, 1, 0] rfl)
        refine lv_iload_n hx hb dX3_sight_100 rfl (lv_at hl 0 rfl) ?_
        refine lv_if_ne (tgt := 109) hx hb dX3_sight_101 (by decide) (fun hc => ?_) (fun hc => ?_)
        · have hf := wp_f hc hf
          refine lv_iload hx hb dX3_sight_109 (lv_at hl 2 rfl) ?_
          have hrs := wp_s hf
          subst hrs
          exact RET H locs ls 111 dX3_sight_111 rfl hH
        · have hf := wp_t hc hf
          refine lv_iload hx hb dX3_sight_104 (lv_at hl 1 rfl) ?_
          refine lv_goto (tgt := 111) hx hb dX3_sight_106 (by decide) ?_
          have hrs := wp_s hf
          subst hrs
          exact RET H locs ls 111 dX3_sight_111 rfl hH
      · have hf := wp_t hc hf
        refine lv_aload_n hx hb dX3_sight_31 rfl (lv_at hl 0 rfl) ?_
        refine lv_bipush (v := (-2)) hx hb dX3_sight_32 (by decide) ?_
        obtain ⟨x17, hcl, hf⟩ := wp_b hf
        refine k_Vi0 F hK hH hA hl.1 ⟨Nat.zero_le _, Nat.zero_le _⟩ [.int (-2)] [] (ctX3_refuse ad yn ym yk yl yt yd yu ye yv yo y0 y1 yc yh (-2) hcl) (cwV 1 hts gX3_sight_X3_refuse rfl rfl rfl hdVX3_refuse ⟨Nat.le_of_ble_eq_true rfl, Nat.le_of_ble_eq_true rfl⟩) dX3_sight_34 0 rfl rfl rfl rfl rfl (Nat.le_of_ble_eq_true rfl) rfl (fun H locs hH => ?_)
        have hH : Hs D A s.heap (wMn cI cJ cQ ad yn ym yk yl yt yd yu x17.2 yv yo y0 y1 yc yh) H locs := hH
        refine W.eq (g2 := F0 m 37 ls [.int x17.1]) rfl ?_
        have hrs := wp_s hf
        subst hrs
        exact RET H locs ls 37 dX3_sight_37 rfl hH
    · have hf := wp_t hc hf
      refine lv_aload_n hx hb dX3_sight_18 rfl (lv_at hl 0 rfl) ?_
      refine lv_iconst (v := (-1)) hx hb dX3_sight_19 (by decide) ?_
      obtain ⟨x18, hcl, hf⟩ := wp_b hf
      refine k_Vi0 F hK hH hA hl.1 ⟨Nat.zero_le _, Nat.zero_le _⟩ [.int (-1)] [] (ctX3_refuse ad yn ym yk yl yt yd yu ye yv yo y0 y1 yc yh (-1) hcl) (cwV 1 hts gX3_sight_X3_refuse rfl rfl rfl hdVX3_refuse ⟨Nat.le_of_ble_eq_true rfl, Nat.le_of_ble_eq_true rfl⟩) dX3_sight_20 0 rfl rfl rfl rfl rfl (Nat.le_of_ble_eq_true rfl) rfl (fun H locs hH => ?_)
      have hH : Hs D A s.heap (wMn cI cJ cQ ad yn ym yk yl yt yd yu x18.2 yv yo y0 y1 yc yh) H locs := hH
      refine W.eq (g2 := F0 m 23 ls [.int x18.1]) rfl ?_
      have hrs := wp_s hf
      subst hrs
      exact RET H locs ls 23 dX3_sight_23 rfl hH

def bX3_agree_7  : (Int32 × LandT) → Option ((Int32 × LandT) ⊕ ((Int32 × LandT) ⊕ (LandT))) := fun ((t2, t3) : Int32 × LandT) =>
  if (60 : Int32) < t2 then
    some (.inr (.inr t3))
  else
    Option.bind (fX0_differsAbove 0 t3) fun x5 =>
    if x5 = (-9) then
      some (.inr (.inl (t2, t3)))
    else
      Option.bind (fX0_passHours 1 t3) fun x6 =>
      some (.inl (t2 + 1, x6))

def fX3_agree (yn : LandT) (ym : LandT) : Option (Int32 × LandT) :=
  Option.bind (fX3_inMind yn ym) fun x1 =>
  Option.bind (lp bX3_agree_7 fu (0, x1)) (el (fun v => some v) (fun (t4 : LandT) =>
    some ((-9), t4)))

def rmX3_agree : Room := { frames := 6, cells := 0, slots := 0, locals := 133 }
theorem hdVX3_agree : yX3_agree.cls = RX3 ∧ yX3_agree.cls ≠ "java/lang/invoke/MethodHandle" ∧ yX3_agree.cls ≠ "java/lang/invoke/VarHandle" ∧ (parseMethodDescriptor yX3_agree.desc).map (fun d => d.parameters.length) = some 0 := by decide +kernel
set_option maxHeartbeats 4000000 in
set_option maxRecDepth 100000 in
theorem ctX3_agree {l : Launch} {D : va_G} {cI cJ cQ : ClassId} (ad : Nat → Nat) (yn : LandT) (ym : LandT) (yk : LandT) (yl : (Nat → Int32)) (yt : Int32) (yd : Int32) (yu : (Nat → Int32)) (ye : (Nat → Int32)) (yv : (Nat → Int32)) (yo : (Nat → Int64)) (y0 : (Nat → Int32)) (y1 : (Nat → Int32)) (yc : Int32) (yh : Int32)  {res : Int32 × LandT} (h : fX3_agree yn ym = some res) : CtI l D cI cJ cQ yX3_agree wsX3_agree rmX3_agree [.ref (ad 0)] (wMn cI cJ cQ ad yn ym yk yl yt yd yu ye yv yo y0 y1 yc yh) res.1 (wMn cI cJ cQ ad yn res.2 yk yl yt yd yu ye yv yo y0 y1 yc yh) := by
  refine ctI_of .int (cc := cX3_agree) (maxL := 3) (by decide) rfl (Nat.le_of_ble_eq_true rfl) ?_
  intro p e s m args below meth c A Q ls F hK hA RET hH hl
  obtain ⟨hx, hb, hml, hown, hts⟩ := id F
  have hl : lv_has ls 3 [(0, .ref (ad 0))] := hl
  have hf : wpO (fX3_agree yn ym) (fun v => v = res) := ⟨_, h, rfl⟩
  obtain ⟨H, eH⟩ : ∃ H, H = s.heap := ⟨_, rfl⟩
  obtain ⟨locs, eL⟩ : ∃ locs : List Loc, locs = [] := ⟨_, rfl⟩
  have hH : Hs D A s.heap (wMn cI cJ cQ ad yn ym yk yl yt yd yu ye yv yo y0 y1 yc yh) H locs := by rw [eH, eL]; exact hH
  rw [← eL]
  suffices hgo : W p l e rmX3_agree s m args below meth c H locs 0 0 Q (F0 m 0 ls []) by rw [eH] at hgo; exact hgo
  clear eH eL
  refine lv_aload_n hx hb dX3_agree_0 rfl (lv_at hl 0 rfl) ?_
  obtain ⟨x1, hcl, hf⟩ := wp_b hf
  refine k_Vr0 F hK hH hA hl.1 ⟨Nat.zero_le _, Nat.zero_le _⟩ [] [] (ctX3_inMind ad yn ym yk yl yt yd yu ye yv yo y0 y1 yc yh hcl) (cwV 0 hts gX3_agree_X3_inMind rfl rfl rfl hdVX3_inMind ⟨Nat.le_of_ble_eq_true rfl, Nat.le_of_ble_eq_true rfl⟩) dX3_agree_1 0 rfl rfl rfl rfl rfl (Nat.le_of_ble_eq_true rfl) rfl (fun H locs hH => ?_)
  have hH : Hs D A s.heap (wMn cI cJ cQ ad yn x1 yk yl yt yd yu ye yv yo y0 y1 yc yh) H locs := hH
  refine W.eq (g2 := F0 m 4 ls [.ref (ad 9)]) rfl ?_
  refine lv_astore_n (lv' := [(1, .ref (ad 9)), (0, .ref (ad 0))]) hx hb dX3_agree_4 rfl hl (by decide) rfl (fun ls hl => ?_)
  refine lv_iconst (v := 0) hx hb dX3_agree_5 (by decide) ?_
  refine lv_istore_n (lv' := [(2, .int 0), (1, .ref (ad 9)), (0, .ref (ad 0))]) hx hb dX3_agree_6 rfl hl (by decide) rfl (fun ls hl => ?_)
  have LP : ∀ (Φ : ((Int32 × LandT) ⊕ (LandT)) → Prop), (∀ v : Int32 × LandT, Φ (.inl v) → v = res) → (∀ (t4 : LandT) (H : Heap) (locs : List Loc) (ls : Array Slot), Φ (.inr t4) → Hs D A s.heap (wMn cI cJ cQ ad yn t4 yk yl yt yd yu ye yv yo y0 y1 yc yh) H locs → lv_has ls 3 [] → W p l e rmX3_agree s m args below meth c H locs 0 0 Q (F0 m 36 ls [])) → ∀ (n : Nat) (t2 : Int32) (t3 : LandT) (H : Heap) (locs : List Loc) (ls : Array Slot), wpO (lp bX3_agree_7 n (t2, t3)) Φ → Hs D A s.heap (wMn cI cJ cQ ad yn t3 yk yl yt yd yu ye yv yo y0 y1 yc yh) H locs → lv_has ls 3 [(1, .ref (ad 9)), (2, .int t2)] → W p l e rmX3_agree s m args below meth c H locs 0 0 Q (F0 m 7 ls []) := by
    intro Φ hret EX n
    induction n with
    | zero =>
      intro t2 t3 H locs ls hf hH hl
      exact (wp_l0 hf).elim
    | succ n ih =>
      intro t2 t3 H locs ls hf hH hl
      have hf := wp_l hf
      refine lv_iload_n hx hb dX3_agree_7 rfl (lv_at hl 1 rfl) ?_
      refine lv_bipush (v := 60) hx hb dX3_agree_8 (by decide) ?_
      refine lv_icmp_gt (tgt := 36) hx hb dX3_agree_10 (by decide) (fun hc => ?_) (fun hc => ?_)
      · have hf := wp_t hc hf
        have hw := wp_out hf
        exact EX _ _ _ _ hw hH (lv_sub hl [] rfl)
      · have hf := wp_f hc hf
        refine lv_aload_n hx hb dX3_agree_13 rfl (lv_at hl 0 rfl) ?_
        refine lv_iconst (v := 0) hx hb dX3_agree_14 (by decide) ?_
        obtain ⟨x5, hcl, hf⟩ := wp_b hf
        refine k_Vi F hK hH hA hl.1 ⟨Nat.zero_le _, Nat.zero_le _⟩ [9, 10, 11, 12, 13, 14, 15, 16] [.int 0] [] (ctX0_differsAbove (fun k => ad (9 + k)) t3 0 hcl) (cwV 1 hts gX3_agree_X0_differsAbove rfl rfl rfl hdVX0_differsAbove ⟨Nat.le_of_ble_eq_true rfl, Nat.le_of_ble_eq_true rfl⟩) dX3_agree_15 9 rfl rfl rfl rfl rfl (Nat.le_of_ble_eq_true rfl) rfl rfl (by decide) (fun H locs hH => ?_)
        have hH : Hs D A s.heap (wMn cI cJ cQ ad yn t3 yk yl yt yd yu ye yv yo y0 y1 yc yh) H locs := hH
        refine lv_bipush (v := (-9)) hx hb dX3_agree_18 (by decide) ?_
        refine lv_icmp_ne (tgt := 25) hx hb dX3_agree_20 (by decide) (fun hc => ?_) (fun hc => ?_)
        · have hf := wp_f hc hf
          refine lv_aload_n hx hb dX3_agree_25 rfl (lv_at hl 0 rfl) ?_
          refine lv_iconst (v := 1) hx hb dX3_agree_26 (by decide) ?_
          obtain ⟨x6, hcl, hf⟩ := wp_b hf
          refine k_Vv F hK hH hA hl.1 ⟨Nat.zero_le _, Nat.zero_le _⟩ [9, 10, 11, 12, 13, 14, 15, 16] [.int 1] [] (ctX0_passHours (fun k => ad (9 + k)) t3 1 hcl) (cwV 1 hts gX3_agree_X0_passHours rfl rfl rfl hdVX0_passHours ⟨Nat.le_of_ble_eq_true rfl, Nat.le_of_ble_eq_true rfl⟩) dX3_agree_27 9 rfl rfl rfl rfl rfl (Nat.le_of_ble_eq_true rfl) rfl rfl (by decide) (fun H locs hH => ?_)
          have hH : Hs D A s.heap (wMn cI cJ cQ ad yn x6 yk yl yt yd yu ye yv yo y0 y1 yc yh) H locs := hH
          refine lv_iinc (v := t2 + 1) (lv' := [(2, .int (t2 + 1)), (1, .ref (ad 9))]) hx hb dX3_agree_30 hl (k := 1) rfl rfl (by decide) rfl (fun ls hl => ?_)
          refine lv_goto (tgt := 7) hx hb dX3_agree_33 (by decide) ?_
          have hw := wp_in hf
          exact ih _ _ _ _ _ hw hH (lv_sub hl [1, 0] rfl)
        · have hf := wp_t hc hf
          refine lv_iload_n hx hb dX3_agree_23 rfl (lv_at hl 1 rfl) ?_
          have hrs := hret _ (wp_out hf)
          subst hrs
          exact RET H locs ls 24 dX3_agree_24 rfl hH
  refine LP _ (fun v hv => by have h9 := wp_s hv; exact h9) (fun t4 H locs ls hf hH hl => ?_) fu _ _ _ _ _ (wp_bb hf) hH (lv_sub hl [1, 0] rfl)
  refine lv_bipush (v := (-9)) hx hb dX3_agree_36 (by decide) ?_
  have hrs := wp_s hf
  subst hrs
  exact RET H locs ls 38 dX3_agree_38 rfl hH

def fX3_appeal (v1 : Int32) (yn : LandT) (ye : (Nat → Int32)) : Option (Int32 × (Nat → Int32)) :=
  Option.bind (fX3_isBranch v1) fun x1 =>
  if x1 = 0 then
    Option.bind (fX3_refuse (-1) ye) fun x3 =>
    some (x3.1, x3.2)
  else
    Option.bind (fX0_differsAbove v1 yn) fun x2 =>
    some (x2, ye)

def rmX3_appeal : Room := { frames := 6, cells := 0, slots := 0, locals := 133 }
theorem mbX3_appeal_f10 : Cond.fieldLink RX3 10 (TX3 0).1 (TX3 0).2.1 (TX3 0).2.2.1 ∈ wsX3_appeal := by decide +kernel
theorem inX3_appeal_X3 : ∀ w ∈ wsX30, w ∈ wsX3_appeal := by decide +kernel
theorem hdVX3_appeal : yX3_appeal.cls = RX3 ∧ yX3_appeal.cls ≠ "java/lang/invoke/MethodHandle" ∧ yX3_appeal.cls ≠ "java/lang/invoke/VarHandle" ∧ (parseMethodDescriptor yX3_appeal.desc).map (fun d => d.parameters.length) = some 1 := by decide +kernel
set_option maxHeartbeats 4000000 in
set_option maxRecDepth 100000 in
theorem ctX3_appeal {l : Launch} {D : va_G} {cI cJ cQ : ClassId} (ad : Nat → Nat) (yn : LandT) (ym : LandT) (yk : LandT) (yl : (Nat → Int32)) (yt : Int32) (yd : Int32) (yu : (Nat → Int32)) (ye : (Nat → Int32)) (yv : (Nat → Int32)) (yo : (Nat → Int64)) (y0 : (Nat → Int32)) (y1 : (Nat → Int32)) (yc : Int32) (yh : Int32) (v1 : Int32) {res : Int32 × (Nat → Int32)} (h : fX3_appeal v1 yn ye = some res) : CtI l D cI cJ cQ yX3_appeal wsX3_appeal rmX3_appeal [.ref (ad 0), .int v1] (wMn cI cJ cQ ad yn ym yk yl yt yd yu ye yv yo y0 y1 yc yh) res.1 (wMn cI cJ cQ ad yn ym yk yl yt yd yu res.2 yv yo y0 y1 yc yh) := by
  refine ctI_of .int (cc := cX3_appeal) (maxL := 2) (by decide) rfl (Nat.le_of_ble_eq_true rfl) ?_
  intro p e s m args below meth c A Q ls F hK hA RET hH hl
  obtain ⟨hx, hb, hml, hown, hts⟩ := id F
  have hl : lv_has ls 2 [(0, .ref (ad 0)), (1, .int v1)] := hl
  have hf : wpO (fX3_appeal v1 yn ye) (fun v => v = res) := ⟨_, h, rfl⟩
  obtain ⟨H, eH⟩ : ∃ H, H = s.heap := ⟨_, rfl⟩
  obtain ⟨locs, eL⟩ : ∃ locs : List Loc, locs = [] := ⟨_, rfl⟩
  have hH : Hs D A s.heap (wMn cI cJ cQ ad yn ym yk yl yt yd yu ye yv yo y0 y1 yc yh) H locs := by rw [eH, eL]; exact hH
  rw [← eL]
  suffices hgo : W p l e rmX3_appeal s m args below meth c H locs 0 0 Q (F0 m 0 ls []) by rw [eH] at hgo; exact hgo
  clear eH eL
  refine lv_iload_n hx hb dX3_appeal_0 rfl (lv_at hl 1 rfl) ?_
  obtain ⟨x1, hcl, hf⟩ := wp_b hf
  refine k_Si F hK hH hA hl.1 ⟨Nat.zero_le _, Nat.zero_le _⟩ [] [.int v1] [] (ctX3_isBranch v1 hcl) (va_cwS 1 hts gX3_appeal_X3_isBranch rfl rfl rfl hdSX3_isBranch ⟨Nat.le_of_ble_eq_true rfl, Nat.le_of_ble_eq_true rfl⟩) dX3_appeal_1 rfl rfl (Nat.le_of_ble_eq_true rfl) rfl rfl (by decide) (fun H locs hH => ?_)
  have hH : Hs D A s.heap (wMn cI cJ cQ ad yn ym yk yl yt yd yu ye yv yo y0 y1 yc yh) H locs := hH
  refine lv_if_ne (tgt := 13) hx hb dX3_appeal_4 (by decide) (fun hc => ?_) (fun hc => ?_)
  · have hf := wp_f hc hf
    refine lv_aload_n hx hb dX3_appeal_13 rfl (lv_at hl 0 rfl) ?_
    refine k_get (v := .ref (ad 1)) F hK hH 0 inX3_appeal_X3 0 mbX3_appeal_f10 dX3_appeal_14 rfl rfl (by decide) rfl ?_
    refine lv_iload_n hx hb dX3_appeal_17 rfl (lv_at hl 1 rfl) ?_
    obtain ⟨x2, hcl, hf⟩ := wp_b hf
    refine k_Vi F hK hH hA hl.1 ⟨Nat.zero_le _, Nat.zero_le _⟩ [1, 2, 3, 4, 5, 6, 7, 8] [.int v1] [] (ctX0_differsAbove (fun k => ad (1 + k)) yn v1 hcl) (cwV 1 hts gX3_appeal_X0_differsAbove rfl rfl rfl hdVX0_differsAbove ⟨Nat.le_of_ble_eq_true rfl, Nat.le_of_ble_eq_true rfl⟩) dX3_appeal_18 1 rfl rfl rfl rfl rfl (Nat.le_of_ble_eq_true rfl) rfl rfl (by decide) (fun H locs hH => ?_)
    have hH : Hs D A s.heap (wMn cI cJ cQ ad yn ym yk yl yt yd yu ye yv yo y0 y1 yc yh) H locs := hH
    have hrs := wp_s hf
    subst hrs
    exact RET H locs ls 21 dX3_appeal_21 rfl hH
  · have hf := wp_t hc hf
    refine lv_aload_n hx hb dX3_appeal_7 rfl (lv_at hl 0 rfl) ?_
    refine lv_iconst (v := (-1)) hx hb dX3_appeal_8 (by decide) ?_
    obtain ⟨x3, hcl, hf⟩ := wp_b hf
    refine k_Vi0 F hK hH hA hl.1 ⟨Nat.zero_le _, Nat.zero_le _⟩ [.int (-1)] [] (ctX3_refuse ad yn ym yk yl yt yd yu ye yv yo y0 y1 yc yh (-1) hcl) (cwV 1 hts gX3_appeal_X3_refuse rfl rfl rfl hdVX3_refuse ⟨Nat.le_of_ble_eq_true rfl, Nat.le_of_ble_eq_true rfl⟩) dX3_appeal_9 0 rfl rfl rfl rfl rfl (Nat.le_of_ble_eq_true rfl) rfl (fun H locs hH => ?_)
    have hH : Hs D A s.heap (wMn cI cJ cQ ad yn ym yk yl yt yd yu x3.2 yv yo y0 y1 yc yh) H locs := hH
    refine W.eq (g2 := F0 m 12 ls [.int x3.1]) rfl ?_
    have hrs := wp_s hf
    subst hrs
    exact RET H locs ls 12 dX3_appeal_12 rfl hH

def fX3_branches (v1 : Int32) (yn : LandT) (ye : (Nat → Int32)) : Option (Int32 × (Nat → Int32)) :=
  Option.bind (fX3_isVerdict v1) fun x1 =>
  if x1 = 0 then
    Option.bind (fX3_refuse (-2) ye) fun x3 =>
    some (x3.1, x3.2)
  else
    Option.bind (fX0_branchesWith v1 yn) fun x2 =>
    some (x2, ye)

def rmX3_branches : Room := { frames := 5, cells := 0, slots := 0, locals := 112 }
theorem mbX3_branches_f10 : Cond.fieldLink RX3 10 (TX3 0).1 (TX3 0).2.1 (TX3 0).2.2.1 ∈ wsX3_branches := by decide +kernel
theorem inX3_branches_X3 : ∀ w ∈ wsX30, w ∈ wsX3_branches := by decide +kernel
theorem hdVX3_branches : yX3_branches.cls = RX3 ∧ yX3_branches.cls ≠ "java/lang/invoke/MethodHandle" ∧ yX3_branches.cls ≠ "java/lang/invoke/VarHandle" ∧ (parseMethodDescriptor yX3_branches.desc).map (fun d => d.parameters.length) = some 1 := by decide +kernel
set_option maxHeartbeats 4000000 in
set_option maxRecDepth 100000 in
theorem ctX3_branches {l : Launch} {D : va_G} {cI cJ cQ : ClassId} (ad : Nat → Nat) (yn : LandT) (ym : LandT) (yk : LandT) (yl : (Nat → Int32)) (yt : Int32) (yd : Int32) (yu : (Nat → Int32)) (ye : (Nat → Int32)) (yv : (Nat → Int32)) (yo : (Nat → Int64)) (y0 : (Nat → Int32)) (y1 : (Nat → Int32)) (yc : Int32) (yh : Int32) (v1 : Int32) {res : Int32 × (Nat → Int32)} (h : fX3_branches v1 yn ye = some res) : CtI l D cI cJ cQ yX3_branches wsX3_branches rmX3_branches [.ref (ad 0), .int v1] (wMn cI cJ cQ ad yn ym yk yl yt yd yu ye yv yo y0 y1 yc yh) res.1 (wMn cI cJ cQ ad yn ym yk yl yt yd yu res.2 yv yo y0 y1 yc yh) := by
  refine ctI_of .int (cc := cX3_branches) (maxL := 2) (by decide) rfl (Nat.le_of_ble_eq_true rfl) ?_
  intro p e s m args below meth c A Q ls F hK hA RET hH hl
  obtain ⟨hx, hb, hml, hown, hts⟩ := id F
  have hl : lv_has ls 2 [(0, .ref (ad 0)), (1, .int v1)] := hl
  have hf : wpO (fX3_branches v1 yn ye) (fun v => v = res) := ⟨_, h, rfl⟩
  obtain ⟨H, eH⟩ : ∃ H, H = s.heap := ⟨_, rfl⟩
  obtain ⟨locs, eL⟩ : ∃ locs : List Loc, locs = [] := ⟨_, rfl⟩
  have hH : Hs D A s.heap (wMn cI cJ cQ ad yn ym yk yl yt yd yu ye yv yo y0 y1 yc yh) H locs := by rw [eH, eL]; exact hH
  rw [← eL]
  suffices hgo : W p l e rmX3_branches s m args below meth c H locs 0 0 Q (F0 m 0 ls []) by rw [eH] at hgo; exact hgo
  clear eH eL
  refine lv_iload_n hx hb dX3_branches_0 rfl (lv_at hl 1 rfl) ?_
  obtain ⟨x1, hcl, hf⟩ := wp_b hf
  refine k_Si F hK hH hA hl.1 ⟨Nat.zero_le _, Nat.zero_le _⟩ [] [.int v1] [] (ctX3_isVerdict v1 hcl) (va_cwS 1 hts gX3_branches_X3_isVerdict rfl rfl rfl hdSX3_isVerdict ⟨Nat.le_of_ble_eq_true rfl, Nat.le_of_ble_eq_true rfl⟩) dX3_branches_1 rfl rfl (Nat.le_of_ble_eq_true rfl) rfl rfl (by decide) (fun H locs hH => ?_)
  have hH : Hs D A s.heap (wMn cI cJ cQ ad yn ym yk yl yt yd yu ye yv yo y0 y1 yc yh) H locs := hH
  refine lv_if_ne (tgt := 14) hx hb dX3_branches_4 (by decide) (fun hc => ?_) (fun hc => ?_)
  · have hf := wp_f hc hf
    refine lv_aload_n hx hb dX3_branches_14 rfl (lv_at hl 0 rfl) ?_
    refine k_get (v := .ref (ad 1)) F hK hH 0 inX3_branches_X3 0 mbX3_branches_f10 dX3_branches_15 rfl rfl (by decide) rfl ?_
    refine lv_iload_n hx hb dX3_branches_18 rfl (lv_at hl 1 rfl) ?_
    obtain ⟨x2, hcl, hf⟩ := wp_b hf
    refine k_Vi F hK hH hA hl.1 ⟨Nat.zero_le _, Nat.zero_le _⟩ [1, 2, 3, 4, 5, 6, 7, 8] [.int v1] [] (ctX0_branchesWith (fun k => ad (1 + k)) yn v1 hcl) (cwV 1 hts gX3_branches_X0_branchesWith rfl rfl rfl hdVX0_branchesWith ⟨Nat.le_of_ble_eq_true rfl, Nat.le_of_ble_eq_true rfl⟩) dX3_branches_19 1 rfl rfl rfl rfl rfl (Nat.le_of_ble_eq_true rfl) rfl rfl (by decide) (fun H locs hH => ?_)
    have hH : Hs D A s.heap (wMn cI cJ cQ ad yn ym yk yl yt yd yu ye yv yo y0 y1 yc yh) H locs := hH
    have hrs := wp_s hf
    subst hrs
    exact RET H locs ls 22 dX3_branches_22 rfl hH
  · have hf := wp_t hc hf
    refine lv_aload_n hx hb dX3_branches_7 rfl (lv_at hl 0 rfl) ?_
    refine lv_bipush (v := (-2)) hx hb dX3_branches_8 (by decide) ?_
    obtain ⟨x3, hcl, hf⟩ := wp_b hf
    refine k_Vi0 F hK hH hA hl.1 ⟨Nat.zero_le _, Nat.zero_le _⟩ [.int (-2)] [] (ctX3_refuse ad yn ym yk yl yt yd yu ye yv yo y0 y1 yc yh (-2) hcl) (cwV 1 hts gX3_branches_X3_refuse rfl rfl rfl hdVX3_refuse ⟨Nat.le_of_ble_eq_true rfl, Nat.le_of_ble_eq_true rfl⟩) dX3_branches_10 0 rfl rfl rfl rfl rfl (Nat.le_of_ble_eq_true rfl) rfl (fun H locs hH => ?_)
    have hH : Hs D A s.heap (wMn cI cJ cQ ad yn ym yk yl yt yd yu x3.2 yv yo y0 y1 yc yh) H locs := hH
    refine W.eq (g2 := F0 m 13 ls [.int x3.1]) rfl ?_
    have hrs := wp_s hf
    subst hrs
    exact RET H locs ls 13 dX3_branches_13 rfl hH

def bX3_hoursWith_12 (v1 : Int32) (v2 : Int32) (v3 : Int32) : (Int32 × Int32 × LandT) → Option ((Int32 × Int32 × LandT) ⊕ (Int32 × LandT)) := fun ((t2, t3, t4) : Int32 × Int32 × LandT) =>
  if v3 < t3 then
    some (.inr (t2, t4))
  else
    Option.bind (fX0_verdictFrom v2 t4) fun x7 =>
    Option.bind (if x7 = v1 then
        some 1
      else
        some 0) fun (t8 : Int32) =>
    Option.bind (fX0_passHours 1 t4) fun x9 =>
    some (.inl (t2 + t8, t3 + 1, x9))

def fX3_hoursWith (v1 : Int32) (v2 : Int32) (v3 : Int32) (yn : LandT) (ym : LandT) : Option (Int32 × LandT) :=
  Option.bind (fX3_inMind yn ym) fun x1 =>
  Option.bind (lp (bX3_hoursWith_12 v1 v2 v3) fu (0, 0, x1)) fun ((t5, t6) : Int32 × LandT) =>
  some (t5, t6)

def rmX3_hoursWith : Room := { frames := 5, cells := 0, slots := 0, locals := 110 }
theorem hdVX3_hoursWith : yX3_hoursWith.cls = RX3 ∧ yX3_hoursWith.cls ≠ "java/lang/invoke/MethodHandle" ∧ yX3_hoursWith.cls ≠ "java/lang/invoke/VarHandle" ∧ (parseMethodDescriptor yX3_hoursWith.desc).map (fun d => d.parameters.length) = some 3 := by decide +kernel
set_option maxHeartbeats 4000000 in
set_option maxRecDepth 100000 in
theorem ctX3_hoursWith {l : Launch} {D : va_G} {cI cJ cQ : ClassId} (ad : Nat → Nat) (yn : LandT) (ym : LandT) (yk : LandT) (yl : (Nat → Int32)) (yt : Int32) (yd : Int32) (yu : (Nat → Int32)) (ye : (Nat → Int32)) (yv : (Nat → Int32)) (yo : (Nat → Int64)) (y0 : (Nat → Int32)) (y1 : (Nat → Int32)) (yc : Int32) (yh : Int32) (v1 : Int32) (v2 : Int32) (v3 : Int32) {res : Int32 × LandT} (h : fX3_hoursWith v1 v2 v3 yn ym = some res) : CtI l D cI cJ cQ yX3_hoursWith wsX3_hoursWith rmX3_hoursWith [.ref (ad 0), .int v1, .int v2, .int v3] (wMn cI cJ cQ ad yn ym yk yl yt yd yu ye yv yo y0 y1 yc yh) res.1 (wMn cI cJ cQ ad yn res.2 yk yl yt yd yu ye yv yo y0 y1 yc yh) := by
  refine ctI_of .int (cc := cX3_hoursWith) (maxL := 7) (by decide) rfl (Nat.le_of_ble_eq_true rfl) ?_
  intro p e s m args below meth c A Q ls F hK hA RET hH hl
  obtain ⟨hx, hb, hml, hown, hts⟩ := id F
  have hl : lv_has ls 7 [(0, .ref (ad 0)), (1, .int v1), (2, .int v2), (3, .int v3)] := hl
  have hf : wpO (fX3_hoursWith v1 v2 v3 yn ym) (fun v => v = res) := ⟨_, h, rfl⟩
  obtain ⟨H, eH⟩ : ∃ H, H = s.heap := ⟨_, rfl⟩
  obtain ⟨locs, eL⟩ : ∃ locs : List Loc, locs = [] := ⟨_, rfl⟩
  have hH : Hs D A s.heap (wMn cI cJ cQ ad yn ym yk yl yt yd yu ye yv yo y0 y1 yc yh) H locs := by rw [eH, eL]; exact hH
  rw [← eL]
  suffices hgo : W p l e rmX3_hoursWith s m args below meth c H locs 0 0 Q (F0 m 0 ls []) by rw [eH] at hgo; exact hgo
  clear eH eL
  refine lv_iconst (v := 0) hx hb dX3_hoursWith_0 (by decide) ?_
  refine lv_istore (lv' := [(4, .int 0), (0, .ref (ad 0)), (1, .int v1), (2, .int v2), (3, .int v3)]) hx hb dX3_hoursWith_1 hl (by decide) rfl (fun ls hl => ?_)
  refine lv_aload_n hx hb dX3_hoursWith_3 rfl (lv_at hl 1 rfl) ?_
  obtain ⟨x1, hcl, hf⟩ := wp_b hf
  refine k_Vr0 F hK hH hA hl.1 ⟨Nat.zero_le _, Nat.zero_le _⟩ [] [] (ctX3_inMind ad yn ym yk yl yt yd yu ye yv yo y0 y1 yc yh hcl) (cwV 0 hts gX3_hoursWith_X3_inMind rfl rfl rfl hdVX3_inMind ⟨Nat.le_of_ble_eq_true rfl, Nat.le_of_ble_eq_true rfl⟩) dX3_hoursWith_4 0 rfl rfl rfl rfl rfl (Nat.le_of_ble_eq_true rfl) rfl (fun H locs hH => ?_)
  have hH : Hs D A s.heap (wMn cI cJ cQ ad yn x1 yk yl yt yd yu ye yv yo y0 y1 yc yh) H locs := hH
  refine W.eq (g2 := F0 m 7 ls [.ref (ad 9)]) rfl ?_
  refine lv_astore (lv' := [(5, .ref (ad 9)), (4, .int 0), (0, .ref (ad 0)), (1, .int v1), (2, .int v2), (3, .int v3)]) hx hb dX3_hoursWith_7 hl (by decide) rfl (fun ls hl => ?_)
  refine lv_iconst (v := 0) hx hb dX3_hoursWith_9 (by decide) ?_
  refine lv_istore (lv' := [(6, .int 0), (5, .ref (ad 9)), (4, .int 0), (0, .ref (ad 0)), (1, .int v1), (2, .int v2), (3, .int v3)]) hx hb dX3_hoursWith_10 hl (by decide) rfl (fun ls hl => ?_)
  have LP : ∀ (Φ : (Int32 × LandT) → Prop), (∀ (t5 : Int32) (t6 : LandT) (H : Heap) (locs : List Loc) (ls : Array Slot), Φ ((t5, t6)) → Hs D A s.heap (wMn cI cJ cQ ad yn t6 yk yl yt yd yu ye yv yo y0 y1 yc yh) H locs → lv_has ls 7 [(4, .int t5)] → W p l e rmX3_hoursWith s m args below meth c H locs 0 0 Q (F0 m 50 ls [])) → ∀ (n : Nat) (t2 : Int32) (t3 : Int32) (t4 : LandT) (H : Heap) (locs : List Loc) (ls : Array Slot), wpO (lp (bX3_hoursWith_12 v1 v2 v3) n (t2, t3, t4)) Φ → Hs D A s.heap (wMn cI cJ cQ ad yn t4 yk yl yt yd yu ye yv yo y0 y1 yc yh) H locs → lv_has ls 7 [(1, .int v1), (2, .int v2), (3, .int v3), (4, .int t2), (5, .ref (ad 9)), (6, .int t3)] → W p l e rmX3_hoursWith s m args below meth c H locs 0 0 Q (F0 m 12 ls []) := by
    intro Φ EX n
    induction n with
    | zero =>
      intro t2 t3 t4 H locs ls hf hH hl
      exact (wp_l0 hf).elim
    | succ n ih =>
      intro t2 t3 t4 H locs ls hf hH hl
      have hf := wp_l hf
      refine lv_iload hx hb dX3_hoursWith_12 (lv_at hl 5 rfl) ?_
      refine lv_iload_n hx hb dX3_hoursWith_14 rfl (lv_at hl 2 rfl) ?_
      refine lv_icmp_gt (tgt := 50) hx hb dX3_hoursWith_15 (by decide) (fun hc => ?_) (fun hc => ?_)
      · have hf := wp_t hc hf
        have hw := wp_out hf
        exact EX _ _ _ _ _ hw hH (lv_sub hl [3] rfl)
      · have hf := wp_f hc hf
        refine lv_iload hx hb dX3_hoursWith_18 (lv_at hl 3 rfl) ?_
        refine lv_aload hx hb dX3_hoursWith_20 (lv_at hl 4 rfl) ?_
        refine lv_iload_n hx hb dX3_hoursWith_22 rfl (lv_at hl 1 rfl) ?_
        obtain ⟨x7, hcl, hf⟩ := wp_b hf
        refine k_Vi F hK hH hA hl.1 ⟨Nat.zero_le _, Nat.zero_le _⟩ [9, 10, 11, 12, 13, 14, 15, 16] [.int v2] [.int t2] (ctX0_verdictFrom (fun k => ad (9 + k)) t4 v2 hcl) (cwV 1 hts gX3_hoursWith_X0_verdictFrom rfl rfl rfl hdVX0_verdictFrom ⟨Nat.le_of_ble_eq_true rfl, Nat.le_of_ble_eq_true rfl⟩) dX3_hoursWith_23 9 rfl rfl rfl rfl rfl (Nat.le_of_ble_eq_true rfl) rfl rfl (by decide) (fun H locs hH => ?_)
        have hH : Hs D A s.heap (wMn cI cJ cQ ad yn t4 yk yl yt yd yu ye yv yo y0 y1 yc yh) H locs := hH
        refine lv_iload_n hx hb dX3_hoursWith_26 rfl (lv_at hl 0 rfl) ?_
        refine join_ (α := Int32) (fun Φ => ∀ (t8 : Int32) (H : Heap) (locs : List Loc) (ls : Array Slot), Φ t8 → Hs D A s.heap (wMn cI cJ cQ ad yn t4 yk yl yt yd yu ye yv yo y0 y1 yc yh) H locs → lv_has ls 7 [(1, .int v1), (2, .int v2), (3, .int v3), (5, .ref (ad 9)), (6, .int t3)] → W p l e rmX3_hoursWith s m args below meth c H locs 0 0 Q (F0 m 35 ls [.int t8, .int t2])) (wp_bb hf) ?_ ?_
        · intro t8 H locs ls hf hH hl
          refine lv_iadd hx hb dX3_hoursWith_35 ?_
          refine lv_istore (lv' := [(4, .int (t2 + t8)), (1, .int v1), (2, .int v2), (3, .int v3), (5, .ref (ad 9)), (6, .int t3)]) hx hb dX3_hoursWith_36 hl (by decide) rfl (fun ls hl => ?_)
          refine lv_aload hx hb dX3_hoursWith_38 (lv_at hl 4 rfl) ?_
          refine lv_iconst (v := 1) hx hb dX3_hoursWith_40 (by decide) ?_
          obtain ⟨x9, hcl, hf⟩ := wp_b hf
          refine k_Vv F hK hH hA hl.1 ⟨Nat.zero_le _, Nat.zero_le _⟩ [9, 10, 11, 12, 13, 14, 15, 16] [.int 1] [] (ctX0_passHours (fun k => ad (9 + k)) t4 1 hcl) (cwV 1 hts gX3_hoursWith_X0_passHours rfl rfl rfl hdVX0_passHours ⟨Nat.le_of_ble_eq_true rfl, Nat.le_of_ble_eq_true rfl⟩) dX3_hoursWith_41 9 rfl rfl rfl rfl rfl (Nat.le_of_ble_eq_true rfl) rfl rfl (by decide) (fun H locs hH => ?_)
          have hH : Hs D A s.heap (wMn cI cJ cQ ad yn x9 yk yl yt yd yu ye yv yo y0 y1 yc yh) H locs := hH
          refine lv_iinc (v := t3 + 1) (lv' := [(6, .int (t3 + 1)), (4, .int (t2 + t8)), (1, .int v1), (2, .int v2), (3, .int v3), (5, .ref (ad 9))]) hx hb dX3_hoursWith_44 hl (k := 5) rfl rfl (by decide) rfl (fun ls hl => ?_)
          refine lv_goto (tgt := 12) hx hb dX3_hoursWith_47 (by decide) ?_
          have hw := wp_in hf
          exact ih _ _ _ _ _ _ hw hH (lv_sub hl [2, 3, 4, 1, 5, 0] rfl)
        · intro Φ JJ hf
          refine lv_icmp_ne (tgt := 34) hx hb dX3_hoursWith_27 (by decide) (fun hc => ?_) (fun hc => ?_)
          · have hf := wp_f hc hf
            refine lv_iconst (v := 0) hx hb dX3_hoursWith_34 (by decide) ?_
            have hw := wp_s hf
            exact JJ _ _ _ _ hw hH (lv_sub hl [0, 1, 2, 4, 5] rfl)
          · have hf := wp_t hc hf
            refine lv_iconst (v := 1) hx hb dX3_hoursWith_30 (by decide) ?_
            refine lv_goto (tgt := 35) hx hb dX3_hoursWith_31 (by decide) ?_
            have hw := wp_s hf
            exact JJ _ _ _ _ hw hH (lv_sub hl [0, 1, 2, 4, 5] rfl)
  refine LP _ (fun t5 t6 H locs ls hf hH hl => ?_) fu _ _ _ _ _ _ (wp_bb hf) hH (lv_sub hl [4, 5, 6, 2, 1, 0] rfl)
  refine lv_iload hx hb dX3_hoursWith_50 (lv_at hl 0 rfl) ?_
  have hrs := wp_s hf
  subst hrs
  exact RET H locs ls 52 dX3_hoursWith_52 rfl hH

def bX3_best_56 (v1 : Int32) (v2 : Int32) (yn : LandT) : (Int32 × Int32 × Int32 × LandT) → Option ((Int32 × Int32 × Int32 × LandT) ⊕ (Int32 × Int32 × LandT)) := fun ((t5, t6, t7, t8) : Int32 × Int32 × Int32 × LandT) =>
  if (10 : Int32) ≤ t7 then
    some (.inr (t5, t6, t8))
  else
    Option.bind (fX3_hoursWith v1 t7 v2 yn t8) fun x12 =>
    if x12.1 ≤ t6 then
      some (.inl (t5, t6, t7 + 1, x12.2))
    else
      some (.inl (t7, x12.1, t7 + 1, x12.2))

def fX3_best (v1 : Int32) (v2 : Int32) (v3 : Int32) (yn : LandT) (ym : LandT) (ye : (Nat → Int32)) : Option (Int32 × LandT × (Nat → Int32)) :=
  Option.bind (fX3_isVerdict v1) fun x1 =>
  if x1 = 0 then
    Option.bind (fX3_refuse (-2) ye) fun x2 =>
    some (x2.1, ym, x2.2)
  else
    Option.bind (fX3_isEither v3) fun x3 =>
    if x3 = 0 then
      Option.bind (fX3_refuse (-2) ye) fun x15 =>
      some (x15.1, ym, x15.2)
    else
      Option.bind (fX3_isWithin v2 0 30) fun x4 =>
      if x4 = 0 then
        Option.bind (if (0 : Int32) ≤ v2 then
            some (-6)
          else
            some (-4)) fun (t13 : Int32) =>
        Option.bind (fX3_refuse t13 ye) fun x14 =>
        some (x14.1, ym, x14.2)
      else
        Option.bind (lp (bX3_best_56 v1 v2 yn) fu (0, (-1), 0, ym)) fun ((t9, t10, t11) : Int32 × Int32 × LandT) =>
        if v3 = 0 then
          some (t9, t11, ye)
        else
          some (t10, t11, ye)

def rmX3_best : Room := { frames := 6, cells := 0, slots := 0, locals := 136 }
theorem hdVX3_best : yX3_best.cls = RX3 ∧ yX3_best.cls ≠ "java/lang/invoke/MethodHandle" ∧ yX3_best.cls ≠ "java/lang/invoke/VarHandle" ∧ (parseMethodDescriptor yX3_best.desc).map (fun d => d.parameters.length) = some 3 := by decide +kernel
set_option maxHeartbeats 4000000 in
set_option maxRecDepth 100000 in
theorem ctX3_best {l : Launch} {D : va_G} {cI cJ cQ : ClassId} (ad : Nat → Nat) (yn : LandT) (ym : LandT) (yk : LandT) (yl : (Nat → Int32)) (yt : Int32) (yd : Int32) (yu : (Nat → Int32)) (ye : (Nat → Int32)) (yv : (Nat → Int32)) (yo : (Nat → Int64)) (y0 : (Nat → Int32)) (y1 : (Nat → Int32)) (yc : Int32) (yh : Int32) (v1 : Int32) (v2 : Int32) (v3 : Int32) {res : Int32 × LandT × (Nat → Int32)} (h : fX3_best v1 v2 v3 yn ym ye = some res) : CtI l D cI cJ cQ yX3_best wsX3_best rmX3_best [.ref (ad 0), .int v1, .int v2, .int v3] (wMn cI cJ cQ ad yn ym yk yl yt yd yu ye yv yo y0 y1 yc yh) res.1 (wMn cI cJ cQ ad yn res.2.1 yk yl yt yd yu res.2.2 yv yo y0 y1 yc yh) := by
  refine ctI_of .int (cc := cX3_best) (maxL := 8) (by decide) rfl (Nat.le_of_ble_eq_true rfl) ?_
  intro p e s m args below meth c A Q ls F hK hA RET hH hl
  obtain ⟨hx, hb, hml, hown, hts⟩ := id F
  have hl : lv_has ls 8 [(0, .ref (ad 0)), (1, .int v1), (2, .int v2), (3, .int v3)] := hl
  have hf : wpO (fX3_best v1 v2 v3 yn ym ye) (fun v => v = res) := ⟨_, h, rfl⟩
  obtain ⟨H, eH⟩ : ∃ H, H = s.heap := ⟨_, rfl⟩
  obtain ⟨locs, eL⟩ : ∃ locs : List Loc, locs = [] := ⟨_, rfl⟩
  have hH : Hs D A s.heap (wMn cI cJ cQ ad yn ym yk yl yt yd yu ye yv yo y0 y1 yc yh) H locs := by rw [eH, eL]; exact hH
  rw [← eL]
  suffices hgo : W p l e rmX3_best s m args below meth c H locs 0 0 Q (F0 m 0 ls []) by rw [eH] at hgo; exact hgo
  clear eH eL
  refine lv_iload_n hx hb dX3_best_0 rfl (lv_at hl 1 rfl) ?_
  obtain ⟨x1, hcl, hf⟩ := wp_b hf
  refine k_Si F hK hH hA hl.1 ⟨Nat.zero_le _, Nat.zero_le _⟩ [] [.int v1] [] (ctX3_isVerdict v1 hcl) (va_cwS 1 hts gX3_best_X3_isVerdict rfl rfl rfl hdSX3_isVerdict ⟨Nat.le_of_ble_eq_true rfl, Nat.le_of_ble_eq_true rfl⟩) dX3_best_1 rfl rfl (Nat.le_of_ble_eq_true rfl) rfl rfl (by decide) (fun H locs hH => ?_)
  have hH : Hs D A s.heap (wMn cI cJ cQ ad yn ym yk yl yt yd yu ye yv yo y0 y1 yc yh) H locs := hH
  refine lv_if_eq (tgt := 14) hx hb dX3_best_4 (by decide) (fun hc => ?_) (fun hc => ?_)
  · have hf := wp_t hc hf
    refine lv_aload_n hx hb dX3_best_14 rfl (lv_at hl 0 rfl) ?_
    refine lv_bipush (v := (-2)) hx hb dX3_best_15 (by decide) ?_
    obtain ⟨x2, hcl, hf⟩ := wp_b hf
    refine k_Vi0 F hK hH hA hl.1 ⟨Nat.zero_le _, Nat.zero_le _⟩ [.int (-2)] [] (ctX3_refuse ad yn ym yk yl yt yd yu ye yv yo y0 y1 yc yh (-2) hcl) (cwV 1 hts gX3_best_X3_refuse rfl rfl rfl hdVX3_refuse ⟨Nat.le_of_ble_eq_true rfl, Nat.le_of_ble_eq_true rfl⟩) dX3_best_17 0 rfl rfl rfl rfl rfl (Nat.le_of_ble_eq_true rfl) rfl (fun H locs hH => ?_)
    have hH : Hs D A s.heap (wMn cI cJ cQ ad yn ym yk yl yt yd yu x2.2 yv yo y0 y1 yc yh) H locs := hH
    refine W.eq (g2 := F0 m 20 ls [.int x2.1]) rfl ?_
    have hrs := wp_s hf
    subst hrs
    exact RET H locs ls 20 dX3_best_20 rfl hH
  · have hf := wp_f hc hf
    refine lv_iload_n hx hb dX3_best_7 rfl (lv_at hl 3 rfl) ?_
    obtain ⟨x3, hcl, hf⟩ := wp_b hf
    refine k_Si F hK hH hA hl.1 ⟨Nat.zero_le _, Nat.zero_le _⟩ [] [.int v3] [] (ctX3_isEither v3 hcl) (va_cwS 1 hts gX3_best_X3_isEither rfl rfl rfl hdSX3_isEither ⟨Nat.le_of_ble_eq_true rfl, Nat.le_of_ble_eq_true rfl⟩) dX3_best_8 rfl rfl (Nat.le_of_ble_eq_true rfl) rfl rfl (by decide) (fun H locs hH => ?_)
    have hH : Hs D A s.heap (wMn cI cJ cQ ad yn ym yk yl yt yd yu ye yv yo y0 y1 yc yh) H locs := hH
    refine lv_if_ne (tgt := 21) hx hb dX3_best_11 (by decide) (fun hc => ?_) (fun hc => ?_)
    · have hf := wp_f hc hf
      refine lv_iload_n hx hb dX3_best_21 rfl (lv_at hl 2 rfl) ?_
      refine lv_iconst (v := 0) hx hb dX3_best_22 (by decide) ?_
      refine lv_bipush (v := 30) hx hb dX3_best_23 (by decide) ?_
      obtain ⟨x4, hcl, hf⟩ := wp_b hf
      refine k_Si F hK hH hA hl.1 ⟨Nat.zero_le _, Nat.zero_le _⟩ [] [.int v2, .int 0, .int 30] [] (ctX3_isWithin v2 0 30 hcl) (va_cwS 3 hts gX3_best_X3_isWithin rfl rfl rfl hdSX3_isWithin ⟨Nat.le_of_ble_eq_true rfl, Nat.le_of_ble_eq_true rfl⟩) dX3_best_25 rfl rfl (Nat.le_of_ble_eq_true rfl) rfl rfl (by decide) (fun H locs hH => ?_)
      have hH : Hs D A s.heap (wMn cI cJ cQ ad yn ym yk yl yt yd yu ye yv yo y0 y1 yc yh) H locs := hH
      refine lv_if_ne (tgt := 47) hx hb dX3_best_28 (by decide) (fun hc => ?_) (fun hc => ?_)
      · have hf := wp_f hc hf
        refine lv_iconst (v := 0) hx hb dX3_best_47 (by decide) ?_
        refine lv_istore (lv' := [(4, .int 0), (0, .ref (ad 0)), (1, .int v1), (2, .int v2), (3, .int v3)]) hx hb dX3_best_48 hl (by decide) rfl (fun ls hl => ?_)
        refine lv_iconst (v := (-1)) hx hb dX3_best_50 (by decide) ?_
        refine lv_istore (lv' := [(5, .int (-1)), (4, .int 0), (0, .ref (ad 0)), (1, .int v1), (2, .int v2), (3, .int v3)]) hx hb dX3_best_51 hl (by decide) rfl (fun ls hl => ?_)
        refine lv_iconst (v := 0) hx hb dX3_best_53 (by decide) ?_
        refine lv_istore (lv' := [(6, .int 0), (5, .int (-1)), (4, .int 0), (0, .ref (ad 0)), (1, .int v1), (2, .int v2), (3, .int v3)]) hx hb dX3_best_54 hl (by decide) rfl (fun ls hl => ?_)
        have LP : ∀ (Φ : (Int32 × Int32 × LandT) → Prop), (∀ (t9 : Int32) (t10 : Int32) (t11 : LandT) (H : Heap) (locs : List Loc) (ls : Array Slot), Φ ((t9, t10, t11)) → Hs D A s.heap (wMn cI cJ cQ ad yn t11 yk yl yt yd yu ye yv yo y0 y1 yc yh) H locs → lv_has ls 8 [(3, .int v3), (4, .int t9), (5, .int t10)] → W p l e rmX3_best s m args below meth c H locs 0 0 Q (F0 m 94 ls [])) → ∀ (n : Nat) (t5 : Int32) (t6 : Int32) (t7 : Int32) (t8 : LandT) (H : Heap) (locs : List Loc) (ls : Array Slot), wpO (lp (bX3_best_56 v1 v2 yn) n (t5, t6, t7, t8)) Φ → Hs D A s.heap (wMn cI cJ cQ ad yn t8 yk yl yt yd yu ye yv yo y0 y1 yc yh) H locs → lv_has ls 8 [(0, .ref (ad 0)), (1, .int v1), (2, .int v2), (3, .int v3), (4, .int t5), (5, .int t6), (6, .int t7)] → W p l e rmX3_best s m args below meth c H locs 0 0 Q (F0 m 56 ls []) := by
          intro Φ EX n
          induction n with
          | zero =>
            intro t5 t6 t7 t8 H locs ls hf hH hl
            exact (wp_l0 hf).elim
          | succ n ih =>
            intro t5 t6 t7 t8 H locs ls hf hH hl
            have hf := wp_l hf
            refine lv_iload hx hb dX3_best_56 (lv_at hl 6 rfl) ?_
            refine lv_bipush (v := 10) hx hb dX3_best_58 (by decide) ?_
            refine lv_icmp_ge (tgt := 94) hx hb dX3_best_60 (by decide) (fun hc => ?_) (fun hc => ?_)
            · have hf := wp_t hc hf
              have hw := wp_out hf
              exact EX _ _ _ _ _ _ hw hH (lv_sub hl [3, 4, 5] rfl)
            · have hf := wp_f hc hf
              refine lv_aload_n hx hb dX3_best_63 rfl (lv_at hl 0 rfl) ?_
              refine lv_iload_n hx hb dX3_best_64 rfl (lv_at hl 1 rfl) ?_
              refine lv_iload hx hb dX3_best_65 (lv_at hl 6 rfl) ?_
              refine lv_iload_n hx hb dX3_best_67 rfl (lv_at hl 2 rfl) ?_
              obtain ⟨x12, hcl, hf⟩ := wp_b hf
              refine k_Vi0 F hK hH hA hl.1 ⟨Nat.zero_le _, Nat.zero_le _⟩ [.int v1, .int t7, .int v2] [] (ctX3_hoursWith ad yn t8 yk yl yt yd yu ye yv yo y0 y1 yc yh v1 t7 v2 hcl) (cwV 3 hts gX3_best_X3_hoursWith rfl rfl rfl hdVX3_hoursWith ⟨Nat.le_of_ble_eq_true rfl, Nat.le_of_ble_eq_true rfl⟩) dX3_best_68 0 rfl rfl rfl rfl rfl (Nat.le_of_ble_eq_true rfl) rfl (fun H locs hH => ?_)
              have hH : Hs D A s.heap (wMn cI cJ cQ ad yn x12.2 yk yl yt yd yu ye yv yo y0 y1 yc yh) H locs := hH
              refine W.eq (g2 := F0 m 71 ls [.int x12.1]) rfl ?_
              refine lv_istore (lv' := [(7, .int x12.1), (0, .ref (ad 0)), (1, .int v1), (2, .int v2), (3, .int v3), (4, .int t5), (5, .int t6), (6, .int t7)]) hx hb dX3_best_71 hl (by decide) rfl (fun ls hl => ?_)
              refine lv_iload hx hb dX3_best_73 (lv_at hl 0 rfl) ?_
              refine lv_iload hx hb dX3_best_75 (lv_at hl 6 rfl) ?_
              refine lv_icmp_le (tgt := 88) hx hb dX3_best_77 (by decide) (fun hc => ?_) (fun hc => ?_)
              · have hf := wp_t hc hf
                refine lv_iinc (v := t7 + 1) (lv' := [(6, .int (t7 + 1)), (7, .int x12.1), (0, .ref (ad 0)), (1, .int v1), (2, .int v2), (3, .int v3), (4, .int t5), (5, .int t6)]) hx hb dX3_best_88 hl (k := 7) rfl rfl (by decide) rfl (fun ls hl => ?_)
                refine lv_goto (tgt := 56) hx hb dX3_best_91 (by decide) ?_
                have hw := wp_in hf
                exact ih _ _ _ _ _ _ _ hw hH (lv_sub hl [2, 3, 4, 5, 6, 7, 0] rfl)
              · have hf := wp_f hc hf
                refine lv_iload hx hb dX3_best_80 (lv_at hl 0 rfl) ?_
                refine lv_istore (lv' := [(5, .int x12.1), (7, .int x12.1), (0, .ref (ad 0)), (1, .int v1), (2, .int v2), (3, .int v3), (4, .int t5), (6, .int t7)]) hx hb dX3_best_82 hl (by decide) rfl (fun ls hl => ?_)
                refine lv_iload hx hb dX3_best_84 (lv_at hl 7 rfl) ?_
                refine lv_istore (lv' := [(4, .int t7), (5, .int x12.1), (7, .int x12.1), (0, .ref (ad 0)), (1, .int v1), (2, .int v2), (3, .int v3), (6, .int t7)]) hx hb dX3_best_86 hl (by decide) rfl (fun ls hl => ?_)
                refine lv_iinc (v := t7 + 1) (lv' := [(6, .int (t7 + 1)), (4, .int t7), (5, .int x12.1), (7, .int x12.1), (0, .ref (ad 0)), (1, .int v1), (2, .int v2), (3, .int v3)]) hx hb dX3_best_88 hl (k := 7) rfl rfl (by decide) rfl (fun ls hl => ?_)
                refine lv_goto (tgt := 56) hx hb dX3_best_91 (by decide) ?_
                have hw := wp_in hf
                exact ih _ _ _ _ _ _ _ hw hH (lv_sub hl [4, 5, 6, 7, 1, 2, 0] rfl)
        refine LP _ (fun t9 t10 t11 H locs ls hf hH hl => ?_) fu _ _ _ _ _ _ _ (wp_bb hf) hH (lv_sub hl [3, 4, 5, 6, 2, 1, 0] rfl)
        refine lv_iload_n hx hb dX3_best_94 rfl (lv_at hl 0 rfl) ?_
        refine lv_if_ne (tgt := 103) hx hb dX3_best_95 (by decide) (fun hc => ?_) (fun hc => ?_)
        · have hf := wp_f hc hf
          refine lv_iload hx hb dX3_best_103 (lv_at hl 2 rfl) ?_
          have hrs := wp_s hf
          subst hrs
          exact RET H locs ls 105 dX3_best_105 rfl hH
        · have hf := wp_t hc hf
          refine lv_iload hx hb dX3_best_98 (lv_at hl 1 rfl) ?_
          refine lv_goto (tgt := 105) hx hb dX3_best_100 (by decide) ?_
          have hrs := wp_s hf
          subst hrs
          exact RET H locs ls 105 dX3_best_105 rfl hH
      · have hf := wp_t hc hf
        refine lv_aload_n hx hb dX3_best_31 rfl (lv_at hl 0 rfl) ?_
        refine lv_iload_n hx hb dX3_best_32 rfl (lv_at hl 2 rfl) ?_
        refine join_ (α := Int32) (fun Φ => ∀ (t13 : Int32) (H : Heap) (locs : List Loc) (ls : Array Slot), Φ t13 → Hs D A s.heap (wMn cI cJ cQ ad yn ym yk yl yt yd yu ye yv yo y0 y1 yc yh) H locs → lv_has ls 8 [] → W p l e rmX3_best s m args below meth c H locs 0 0 Q (F0 m 43 ls [.int t13, .ref (ad 0)])) (wp_bb hf) ?_ ?_
        · intro t13 H locs ls hf hH hl
          obtain ⟨x14, hcl, hf⟩ := wp_b hf
          refine k_Vi0 F hK hH hA hl.1 ⟨Nat.zero_le _, Nat.zero_le _⟩ [.int t13] [] (ctX3_refuse ad yn ym yk yl yt yd yu ye yv yo y0 y1 yc yh t13 hcl) (cwV 1 hts gX3_best_X3_refuse rfl rfl rfl hdVX3_refuse ⟨Nat.le_of_ble_eq_true rfl, Nat.le_of_ble_eq_true rfl⟩) dX3_best_43 0 rfl rfl rfl rfl rfl (Nat.le_of_ble_eq_true rfl) rfl (fun H locs hH => ?_)
          have hH : Hs D A s.heap (wMn cI cJ cQ ad yn ym yk yl yt yd yu x14.2 yv yo y0 y1 yc yh) H locs := hH
          refine W.eq (g2 := F0 m 46 ls [.int x14.1]) rfl ?_
          have hrs := wp_s hf
          subst hrs
          exact RET H locs ls 46 dX3_best_46 rfl hH
        · intro Φ JJ hf
          refine lv_if_ge (tgt := 41) hx hb dX3_best_33 (by decide) (fun hc => ?_) (fun hc => ?_)
          · have hf := wp_t hc hf
            refine lv_bipush (v := (-6)) hx hb dX3_best_41 (by decide) ?_
            have hw := wp_s hf
            exact JJ _ _ _ _ hw hH (lv_sub hl [] rfl)
          · have hf := wp_f hc hf
            refine lv_bipush (v := (-4)) hx hb dX3_best_36 (by decide) ?_
            refine lv_goto (tgt := 43) hx hb dX3_best_38 (by decide) ?_
            have hw := wp_s hf
            exact JJ _ _ _ _ hw hH (lv_sub hl [] rfl)
    · have hf := wp_t hc hf
      refine lv_aload_n hx hb dX3_best_14 rfl (lv_at hl 0 rfl) ?_
      refine lv_bipush (v := (-2)) hx hb dX3_best_15 (by decide) ?_
      obtain ⟨x15, hcl, hf⟩ := wp_b hf
      refine k_Vi0 F hK hH hA hl.1 ⟨Nat.zero_le _, Nat.zero_le _⟩ [.int (-2)] [] (ctX3_refuse ad yn ym yk yl yt yd yu ye yv yo y0 y1 yc yh (-2) hcl) (cwV 1 hts gX3_best_X3_refuse rfl rfl rfl hdVX3_refuse ⟨Nat.le_of_ble_eq_true rfl, Nat.le_of_ble_eq_true rfl⟩) dX3_best_17 0 rfl rfl rfl rfl rfl (Nat.le_of_ble_eq_true rfl) rfl (fun H locs hH => ?_)
      have hH : Hs D A s.heap (wMn cI cJ cQ ad yn ym yk yl yt yd yu x15.2 yv yo y0 y1 yc yh) H locs := hH
      refine W.eq (g2 := F0 m 20 ls [.int x15.1]) rfl ?_
      have hrs := wp_s hf
      subst hrs
      exact RET H locs ls 20 dX3_best_20 rfl hH

