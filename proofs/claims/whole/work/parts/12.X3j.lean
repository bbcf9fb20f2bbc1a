def bX3_whereWas_57 (v1 : Int32) (v2 : Int32) (v3 : Int32) (yn : LandT) (yu : (Nat → Int32)) (yc : Int32) (t5 : Int32) : (Int32 × Int32 × LandT) → Option ((Int32 × Int32 × LandT) ⊕ (Int32 × LandT)) := fun ((t6, t7, t8) : Int32 × Int32 × LandT) =>
  if t5 ≤ t7 then
    some (.inr (t6, t8))
  else
    Option.bind (fX3_inMind yn t8) fun x11 =>
    Option.bind (if v3 = 0 then
        if ob v1 7 then none else
        some (gH x11, gR x11, gK x11, gF x11, upd (gP x11) (Int32.toNatClampNeg v1) t7, gV x11, gQ x11, gN x11, gD x11, gE x11, gT x11)
      else
        if ob v1 7 then none else
        some (gH x11, gR x11, upd (gK x11) (Int32.toNatClampNeg v1) t7, gF x11, gP x11, gV x11, gQ x11, gN x11, gD x11, gE x11, gT x11)) fun (t12 : LandT) =>
    Option.bind (fX3_goesByRow v2 t12 yu yc) fun x13 =>
    if x13.1 = 0 then
      some (.inl (t6, t7 + 1, x13.2))
    else
      some (.inl (t6 ||| ((1 : Int32) <<< (t7 &&& 31)), t7 + 1, x13.2))

def fX3_whereWas (v1 : Int32) (v2 : Int32) (v3 : Int32) (yn : LandT) (ym : LandT) (yu : (Nat → Int32)) (ye : (Nat → Int32)) (yc : Int32) : Option (Int32 × LandT × (Nat → Int32)) :=
  Option.bind (fX0_hasThing v1 yn) fun x1 =>
  if x1 = 0 then
    Option.bind (fX3_refuse (-1) ye) fun x2 =>
    some (x2.1, ym, x2.2)
  else
    Option.bind (fX3_isBranch v2) fun x3 =>
    if x3 = 0 then
      Option.bind (fX3_refuse (-1) ye) fun x15 =>
      some (x15.1, ym, x15.2)
    else
      Option.bind (fX3_isEither v3) fun x4 =>
      if x4 = 0 then
        Option.bind (fX3_refuse (-2) ye) fun x14 =>
        some (x14.1, ym, x14.2)
      else
        Option.bind (if v3 = 0 then
            some 16
          else
            some 6) fun (t5 : Int32) =>
        Option.bind (lp (bX3_whereWas_57 v1 v2 v3 yn yu yc t5) fu (0, 0, ym)) fun ((t9, t10) : Int32 × LandT) =>
        some (t9, t10, ye)

def rmX3_whereWas : Room := { frames := 6, cells := 0, slots := 0, locals := 133 }
theorem mbX3_whereWas_f10 : Cond.fieldLink RX3 10 (TX3 0).1 (TX3 0).2.1 (TX3 0).2.2.1 ∈ wsX3_whereWas := by decide +kernel
theorem inX3_whereWas_X3 : ∀ w ∈ wsX30, w ∈ wsX3_whereWas := by decide +kernel
theorem mbX3_whereWas_f92 : Cond.fieldLink RX3 92 (TX0 2).1 (TX0 2).2.1 (TX0 2).2.2.1 ∈ wsX3_whereWas := by decide +kernel
theorem inX3_whereWas_X0 : ∀ w ∈ wsX00, w ∈ wsX3_whereWas := by decide +kernel
theorem mbX3_whereWas_f98 : Cond.fieldLink RX3 98 (TX0 4).1 (TX0 4).2.1 (TX0 4).2.2.1 ∈ wsX3_whereWas := by decide +kernel
theorem hdVX3_whereWas : yX3_whereWas.cls = RX3 ∧ yX3_whereWas.cls ≠ "java/lang/invoke/MethodHandle" ∧ yX3_whereWas.cls ≠ "java/lang/invoke/VarHandle" ∧ (parseMethodDescriptor yX3_whereWas.desc).map (fun d => d.parameters.length) = some 3 := by decide +kernel
set_option maxHeartbeats 4000000 in
set_option maxRecDepth 100000 in
theorem ctX3_whereWas {l : Launch} {D : va_G} {cI cJ cQ : ClassId} (ad : Nat → Nat) (yn : LandT) (ym : LandT) (yk : LandT) (yl : (Nat → Int32)) (yt : Int32) (yd : Int32) (yu : (Nat → Int32)) (ye : (Nat → Int32)) (yv : (Nat → Int32)) (yo : (Nat → Int64)) (y0 : (Nat → Int32)) (y1 : (Nat → Int32)) (yc : Int32) (yh : Int32) (v1 : Int32) (v2 : Int32) (v3 : Int32) {res : Int32 × LandT × (Nat → Int32)} (h : fX3_whereWas v1 v2 v3 yn ym yu ye yc = some res) : CtI l D cI cJ cQ yX3_whereWas wsX3_whereWas rmX3_whereWas [.ref (ad 0), .int v1, .int v2, .int v3] (wMn cI cJ cQ ad yn ym yk yl yt yd yu ye yv yo y0 y1 yc yh) res.1 (wMn cI cJ cQ ad yn res.2.1 yk yl yt yd yu res.2.2 yv yo y0 y1 yc yh) := by
  refine ctI_of .int (cc := cX3_whereWas) (maxL := 8) (by decide) rfl (Nat.le_of_ble_eq_true rfl) ?_
  intro p e s m args below meth c A Q ls F hK hA RET hH hl
  obtain ⟨hx, hb, hml, hown, hts⟩ := id F
  have hl : lv_has ls 8 [(0, .ref (ad 0)), (1, .int v1), (2, .int v2), (3, .int v3)] := hl
  have hf : wpO (fX3_whereWas v1 v2 v3 yn ym yu ye yc) (fun v => v = res) := ⟨_, h, rfl⟩
  obtain ⟨H, eH⟩ : ∃ H, H = s.heap := ⟨_, rfl⟩
  obtain ⟨locs, eL⟩ : ∃ locs : List Loc, locs = [] := ⟨_, rfl⟩
  have hH : Hs D A s.heap (wMn cI cJ cQ ad yn ym yk yl yt yd yu ye yv yo y0 y1 yc yh) H locs := by rw [eH, eL]; exact hH
  rw [← eL]
  suffices hgo : W p l e rmX3_whereWas s m args below meth c H locs 0 0 Q (F0 m 0 ls []) by rw [eH] at hgo; exact hgo
  clear eH eL
  refine lv_aload_n hx hb dX3_whereWas_0 rfl (lv_at hl 0 rfl) ?_
  refine k_get (v := .ref (ad 1)) F hK hH 0 inX3_whereWas_X3 0 mbX3_whereWas_f10 dX3_whereWas_1 rfl rfl (by decide) rfl ?_
  refine lv_iload_n hx hb dX3_whereWas_4 rfl (lv_at hl 1 rfl) ?_
  obtain ⟨x1, hcl, hf⟩ := wp_b hf
  refine k_Vi F hK hH hA hl.1 ⟨Nat.zero_le _, Nat.zero_le _⟩ [1, 2, 3, 4, 5, 6, 7, 8] [.int v1] [] (ctX0_hasThing (fun k => ad (1 + k)) yn v1 hcl) (cwV 1 hts gX3_whereWas_X0_hasThing rfl rfl rfl hdVX0_hasThing ⟨Nat.le_of_ble_eq_true rfl, Nat.le_of_ble_eq_true rfl⟩) dX3_whereWas_5 1 rfl rfl rfl rfl rfl (Nat.le_of_ble_eq_true rfl) rfl rfl (by decide) (fun H locs hH => ?_)
  have hH : Hs D A s.heap (wMn cI cJ cQ ad yn ym yk yl yt yd yu ye yv yo y0 y1 yc yh) H locs := hH
  refine lv_if_eq (tgt := 18) hx hb dX3_whereWas_8 (by decide) (fun hc => ?_) (fun hc => ?_)
  · have hf := wp_t hc hf
    refine lv_aload_n hx hb dX3_whereWas_18 rfl (lv_at hl 0 rfl) ?_
    refine lv_iconst (v := (-1)) hx hb dX3_whereWas_19 (by decide) ?_
    obtain ⟨x2, hcl, hf⟩ := wp_b hf
    refine k_Vi0 F hK hH hA hl.1 ⟨Nat.zero_le _, Nat.zero_le _⟩ [.int (-1)] [] (ctX3_refuse ad yn ym yk yl yt yd yu ye yv yo y0 y1 yc yh (-1) hcl) (cwV 1 hts gX3_whereWas_X3_refuse rfl rfl rfl hdVX3_refuse ⟨Nat.le_of_ble_eq_true rfl, Nat.le_of_ble_eq_true rfl⟩) dX3_whereWas_20 0 rfl rfl rfl rfl rfl (Nat.le_of_ble_eq_true rfl) rfl (fun H locs hH => ?_)
    have hH : Hs D A s.heap (wMn cI cJ cQ ad yn ym yk yl yt yd yu x2.2 yv yo y0 y1 yc yh) H locs := hH
    refine W.eq (g2 := F0 m 23 ls [.int x2.1]) rfl ?_
    have hrs := wp_s hf
    subst hrs
    exact RET H locs ls 23 dX3_whereWas_23 rfl hH
  · have hf := wp_f hc hf
    refine lv_iload_n hx hb dX3_whereWas_11 rfl (lv_at hl 2 rfl) ?_
    obtain ⟨x3, hcl, hf⟩ := wp_b hf
    refine k_Si F hK hH hA hl.1 ⟨Nat.zero_le _, Nat.zero_le _⟩ [] [.int v2] [] (ctX3_isBranch v2 hcl) (va_cwS 1 hts gX3_whereWas_X3_isBranch rfl rfl rfl hdSX3_isBranch ⟨Nat.le_of_ble_eq_true rfl, Nat.le_of_ble_eq_true rfl⟩) dX3_whereWas_12 rfl rfl (Nat.le_of_ble_eq_true rfl) rfl rfl (by decide) (fun H locs hH => ?_)
    have hH : Hs D A s.heap (wMn cI cJ cQ ad yn ym yk yl yt yd yu ye yv yo y0 y1 yc yh) H locs := hH
    refine lv_if_ne (tgt := 24) hx hb dX3_whereWas_15 (by decide) (fun hc => ?_) (fun hc => ?_)
    · have hf := wp_f hc hf
      refine lv_iload_n hx hb dX3_whereWas_24 rfl (lv_at hl 3 rfl) ?_
      obtain ⟨x4, hcl, hf⟩ := wp_b hf
      refine k_Si F hK hH hA hl.1 ⟨Nat.zero_le _, Nat.zero_le _⟩ [] [.int v3] [] (ctX3_isEither v3 hcl) (va_cwS 1 hts gX3_whereWas_X3_isEither rfl rfl rfl hdSX3_isEither ⟨Nat.le_of_ble_eq_true rfl, Nat.le_of_ble_eq_true rfl⟩) dX3_whereWas_25 rfl rfl (Nat.le_of_ble_eq_true rfl) rfl rfl (by decide) (fun H locs hH => ?_)
      have hH : Hs D A s.heap (wMn cI cJ cQ ad yn ym yk yl yt yd yu ye yv yo y0 y1 yc yh) H locs := hH
      refine lv_if_ne (tgt := 38) hx hb dX3_whereWas_28 (by decide) (fun hc => ?_) (fun hc => ?_)
      · have hf := wp_f hc hf
        refine lv_iconst (v := 0) hx hb dX3_whereWas_38 (by decide) ?_
        refine lv_istore (lv' := [(4, .int 0), (0, .ref (ad 0)), (1, .int v1), (2, .int v2), (3, .int v3)]) hx hb dX3_whereWas_39 hl (by decide) rfl (fun ls hl => ?_)
        refine lv_iload_n hx hb dX3_whereWas_41 rfl (lv_at hl 4 rfl) ?_
        refine join_ (α := Int32) (fun Φ => ∀ (t5 : Int32) (H : Heap) (locs : List Loc) (ls : Array Slot), Φ t5 → Hs D A s.heap (wMn cI cJ cQ ad yn ym yk yl yt yd yu ye yv yo y0 y1 yc yh) H locs → lv_has ls 8 [(0, .ref (ad 0)), (1, .int v1), (2, .int v2), (3, .int v3), (4, .int 0)] → W p l e rmX3_whereWas s m args below meth c H locs 0 0 Q (F0 m 52 ls [.int t5])) (wp_bb hf) ?_ ?_
        · intro t5 H locs ls hf hH hl
          refine lv_istore (lv' := [(5, .int t5), (0, .ref (ad 0)), (1, .int v1), (2, .int v2), (3, .int v3), (4, .int 0)]) hx hb dX3_whereWas_52 hl (by decide) rfl (fun ls hl => ?_)
          refine lv_iconst (v := 0) hx hb dX3_whereWas_54 (by decide) ?_
          refine lv_istore (lv' := [(6, .int 0), (5, .int t5), (0, .ref (ad 0)), (1, .int v1), (2, .int v2), (3, .int v3), (4, .int 0)]) hx hb dX3_whereWas_55 hl (by decide) rfl (fun ls hl => ?_)
          have LP : ∀ (Φ : (Int32 × LandT) → Prop), (∀ (t9 : Int32) (t10 : LandT) (H : Heap) (locs : List Loc) (ls : Array Slot), Φ ((t9, t10)) → Hs D A s.heap (wMn cI cJ cQ ad yn t10 yk yl yt yd yu ye yv yo y0 y1 yc yh) H locs → lv_has ls 8 [(4, .int t9)] → W p l e rmX3_whereWas s m args below meth c H locs 0 0 Q (F0 m 120 ls [])) → ∀ (n : Nat) (t6 : Int32) (t7 : Int32) (t8 : LandT) (H : Heap) (locs : List Loc) (ls : Array Slot), wpO (lp (bX3_whereWas_57 v1 v2 v3 yn yu yc t5) n (t6, t7, t8)) Φ → Hs D A s.heap (wMn cI cJ cQ ad yn t8 yk yl yt yd yu ye yv yo y0 y1 yc yh) H locs → lv_has ls 8 [(0, .ref (ad 0)), (1, .int v1), (2, .int v2), (3, .int v3), (4, .int t6), (5, .int t5), (6, .int t7)] → W p l e rmX3_whereWas s m args below meth c H locs 0 0 Q (F0 m 57 ls []) := by
            intro Φ EX n
            induction n with
            | zero =>
              intro t6 t7 t8 H locs ls hf hH hl
              exact (wp_l0 hf).elim
            | succ n ih =>
              intro t6 t7 t8 H locs ls hf hH hl
              have hf := wp_l hf
              refine lv_iload hx hb dX3_whereWas_57 (lv_at hl 6 rfl) ?_
              refine lv_iload hx hb dX3_whereWas_59 (lv_at hl 5 rfl) ?_
              refine lv_icmp_ge (tgt := 120) hx hb dX3_whereWas_61 (by decide) (fun hc => ?_) (fun hc => ?_)
              · have hf := wp_t hc hf
                have hw := wp_out hf
                exact EX _ _ _ _ _ hw hH (lv_sub hl [4] rfl)
              · have hf := wp_f hc hf
                refine lv_aload_n hx hb dX3_whereWas_64 rfl (lv_at hl 0 rfl) ?_
                obtain ⟨x11, hcl, hf⟩ := wp_b hf
                refine k_Vr0 F hK hH hA hl.1 ⟨Nat.zero_le _, Nat.zero_le _⟩ [] [] (ctX3_inMind ad yn t8 yk yl yt yd yu ye yv yo y0 y1 yc yh hcl) (cwV 0 hts gX3_whereWas_X3_inMind rfl rfl rfl hdVX3_inMind ⟨Nat.le_of_ble_eq_true rfl, Nat.le_of_ble_eq_true rfl⟩) dX3_whereWas_65 0 rfl rfl rfl rfl rfl (Nat.le_of_ble_eq_true rfl) rfl (fun H locs hH => ?_)
                have hH : Hs D A s.heap (wMn cI cJ cQ ad yn x11 yk yl yt yd yu ye yv yo y0 y1 yc yh) H locs := hH
                refine W.eq (g2 := F0 m 68 ls [.ref (ad 9)]) rfl ?_
                refine lv_astore (lv' := [(7, .ref (ad 9)), (0, .ref (ad 0)), (1, .int v1), (2, .int v2), (3, .int v3), (4, .int t6), (5, .int t5), (6, .int t7)]) hx hb dX3_whereWas_68 hl (by decide) rfl (fun ls hl => ?_)
                refine lv_iload_n hx hb dX3_whereWas_70 rfl (lv_at hl 4 rfl) ?_
                refine join_ (α := LandT) (fun Φ => ∀ (t12 : LandT) (H : Heap) (locs : List Loc) (ls : Array Slot), Φ t12 → Hs D A s.heap (wMn cI cJ cQ ad yn t12 yk yl yt yd yu ye yv yo y0 y1 yc yh) H locs → lv_has ls 8 [(0, .ref (ad 0)), (1, .int v1), (2, .int v2), (3, .int v3), (4, .int t6), (5, .int t5), (6, .int t7), (7, .ref (ad 9))] → W p l e rmX3_whereWas s m args below meth c H locs 0 0 Q (F0 m 95 ls [])) (wp_bb hf) ?_ ?_
                · intro t12 H locs ls hf hH hl
                  refine lv_aload_n hx hb dX3_whereWas_95 rfl (lv_at hl 0 rfl) ?_
                  refine lv_aload hx hb dX3_whereWas_96 (lv_at hl 7 rfl) ?_
                  refine lv_iload_n hx hb dX3_whereWas_98 rfl (lv_at hl 2 rfl) ?_
                  obtain ⟨x13, hcl, hf⟩ := wp_b hf
                  refine k_Vi0 F hK hH hA hl.1 ⟨Nat.zero_le _, Nat.zero_le _⟩ [.ref (ad 9), .int v2] [] (ctX3_goesByRow ad yn t12 yk yl yt yd yu ye yv yo y0 y1 yc yh v2 hcl) (cwV 2 hts gX3_whereWas_X3_goesByRow rfl rfl rfl hdVX3_goesByRow ⟨Nat.le_of_ble_eq_true rfl, Nat.le_of_ble_eq_true rfl⟩) dX3_whereWas_99 0 rfl rfl rfl rfl rfl (Nat.le_of_ble_eq_true rfl) rfl (fun H locs hH => ?_)
                  have hH : Hs D A s.heap (wMn cI cJ cQ ad yn x13.2 yk yl yt yd yu ye yv yo y0 y1 yc yh) H locs := hH
                  refine W.eq (g2 := F0 m 102 ls [.int x13.1]) rfl ?_
                  refine lv_if_eq (tgt := 114) hx hb dX3_whereWas_102 (by decide) (fun hc => ?_) (fun hc => ?_)
                  · have hf := wp_t hc hf
                    refine lv_iinc (v := t7 + 1) (lv' := [(6, .int (t7 + 1)), (0, .ref (ad 0)), (1, .int v1), (2, .int v2), (3, .int v3), (4, .int t6), (5, .int t5), (7, .ref (ad 9))]) hx hb dX3_whereWas_114 hl (k := 6) rfl rfl (by decide) rfl (fun ls hl => ?_)
                    refine lv_goto (tgt := 57) hx hb dX3_whereWas_117 (by decide) ?_
                    have hw := wp_in hf
                    exact ih _ _ _ _ _ _ hw hH (lv_sub hl [1, 2, 3, 4, 5, 6, 0] rfl)
                  · have hf := wp_f hc hf
                    refine lv_iload hx hb dX3_whereWas_105 (lv_at hl 4 rfl) ?_
                    refine lv_iconst (v := 1) hx hb dX3_whereWas_107 (by decide) ?_
                    refine lv_iload hx hb dX3_whereWas_108 (lv_at hl 6 rfl) ?_
                    refine lv_ishl hx hb dX3_whereWas_110 ?_
                    refine lv_ior hx hb dX3_whereWas_111 ?_
                    refine lv_istore (lv' := [(4, .int (t6 ||| ((1 : Int32) <<< (t7 &&& 31)))), (0, .ref (ad 0)), (1, .int v1), (2, .int v2), (3, .int v3), (5, .int t5), (6, .int t7), (7, .ref (ad 9))]) hx hb dX3_whereWas_112 hl (by decide) rfl (fun ls hl => ?_)
                    refine lv_iinc (v := t7 + 1) (lv' := [(6, .int (t7 + 1)), (4, .int (t6 ||| ((1 : Int32) <<< (t7 &&& 31)))), (0, .ref (ad 0)), (1, .int v1), (2, .int v2), (3, .int v3), (5, .int t5), (7, .ref (ad 9))]) hx hb dX3_whereWas_114 hl (k := 6) rfl rfl (by decide) rfl (fun ls hl => ?_)
                    refine lv_goto (tgt := 57) hx hb dX3_whereWas_117 (by decide) ?_
                    have hw := wp_in hf
                    exact ih _ _ _ _ _ _ hw hH (lv_sub hl [2, 3, 4, 5, 1, 6, 0] rfl)
                · intro Φ JJ hf
                  refine lv_if_ne (tgt := 86) hx hb dX3_whereWas_71 (by decide) (fun hc => ?_) (fun hc => ?_)
                  · have hf := wp_f hc hf
                    refine lv_aload hx hb dX3_whereWas_86 (lv_at hl 0 rfl) ?_
                    refine k_get (v := .ref (ad 12)) F hK hH 9 inX3_whereWas_X0 2 mbX3_whereWas_f92 dX3_whereWas_88 rfl rfl (by decide) rfl ?_
                    refine lv_iload_n hx hb dX3_whereWas_91 rfl (lv_at hl 2 rfl) ?_
                    refine lv_iload hx hb dX3_whereWas_92 (lv_at hl 7 rfl) ?_
                    obtain ⟨hi, hf⟩ := wp_n hf
                    refine k_iast (f := gK x11) (n := 7) F hK hH 12 dX3_whereWas_94 hi rfl (fun H locs hH => ?_)
                    have hH : Hs D A s.heap (wMn cI cJ cQ ad yn (gH x11, gR x11, upd (gK x11) (Int32.toNatClampNeg v1) t7, gF x11, gP x11, gV x11, gQ x11, gN x11, gD x11, gE x11, gT x11) yk yl yt yd yu ye yv yo y0 y1 yc yh) H locs := hH
                    have hw := wp_s hf
                    exact JJ _ _ _ _ hw hH (lv_sub hl [1, 2, 3, 4, 5, 6, 7, 0] rfl)
                  · have hf := wp_t hc hf
                    refine lv_aload hx hb dX3_whereWas_74 (lv_at hl 0 rfl) ?_
                    refine k_get (v := .ref (ad 14)) F hK hH 9 inX3_whereWas_X0 4 mbX3_whereWas_f98 dX3_whereWas_76 rfl rfl (by decide) rfl ?_
                    refine lv_iload_n hx hb dX3_whereWas_79 rfl (lv_at hl 2 rfl) ?_
                    refine lv_iload hx hb dX3_whereWas_80 (lv_at hl 7 rfl) ?_
                    obtain ⟨hi, hf⟩ := wp_n hf
                    refine k_iast (f := gP x11) (n := 7) F hK hH 14 dX3_whereWas_82 hi rfl (fun H locs hH => ?_)
                    have hH : Hs D A s.heap (wMn cI cJ cQ ad yn (gH x11, gR x11, gK x11, gF x11, upd (gP x11) (Int32.toNatClampNeg v1) t7, gV x11, gQ x11, gN x11, gD x11, gE x11, gT x11) yk yl yt yd yu ye yv yo y0 y1 yc yh) H locs := hH
                    refine lv_goto (tgt := 95) hx hb dX3_whereWas_83 (by decide) ?_
                    have hw := wp_s hf
                    exact JJ _ _ _ _ hw hH (lv_sub hl [1, 2, 3, 4, 5, 6, 7, 0] rfl)
          refine LP _ (fun t9 t10 H locs ls hf hH hl => ?_) fu _ _ _ _ _ _ (wp_bb hf) hH (lv_sub hl [2, 3, 4, 5, 6, 1, 0] rfl)
          refine lv_iload hx hb dX3_whereWas_120 (lv_at hl 0 rfl) ?_
          have hrs := wp_s hf
          subst hrs
          exact RET H locs ls 122 dX3_whereWas_122 rfl hH
        · intro Φ JJ hf
          refine lv_if_ne (tgt := 50) hx hb dX3_whereWas_42 (by decide) (fun hc => ?_) (fun hc => ?_)
          · have hf := wp_f hc hf
            refine lv_bipush (v := 6) hx hb dX3_whereWas_50 (by decide) ?_
            have hw := wp_s hf
            exact JJ _ _ _ _ hw hH (lv_sub hl [1, 2, 3, 4, 0] rfl)
          · have hf := wp_t hc hf
            refine lv_bipush (v := 16) hx hb dX3_whereWas_45 (by decide) ?_
            refine lv_goto (tgt := 52) hx hb dX3_whereWas_47 (by decide) ?_
            have hw := wp_s hf
            exact JJ _ _ _ _ hw hH (lv_sub hl [1, 2, 3, 4, 0] rfl)
      · have hf := wp_t hc hf
        refine lv_aload_n hx hb dX3_whereWas_31 rfl (lv_at hl 0 rfl) ?_
        refine lv_bipush (v := (-2)) hx hb dX3_whereWas_32 (by decide) ?_
        obtain ⟨x14, hcl, hf⟩ := wp_b hf
        refine k_Vi0 F hK hH hA hl.1 ⟨Nat.zero_le _, Nat.zero_le _⟩ [.int (-2)] [] (ctX3_refuse ad yn ym yk yl yt yd yu ye yv yo y0 y1 yc yh (-2) hcl) (cwV 1 hts gX3_whereWas_X3_refuse rfl rfl rfl hdVX3_refuse ⟨Nat.le_of_ble_eq_true rfl, Nat.le_of_ble_eq_true rfl⟩) dX3_whereWas_34 0 rfl rfl rfl rfl rfl (Nat.le_of_ble_eq_true rfl) rfl (fun H locs hH => ?_)
        have hH : Hs D A s.heap (wMn cI cJ cQ ad yn ym yk yl yt yd yu x14.2 yv yo y0 y1 yc yh) H locs := hH
        refine W.eq (g2 := F0 m 37 ls [.int x14.1]) rfl ?_
        have hrs := wp_s hf
        subst hrs
        exact RET H locs ls 37 dX3_whereWas_37 rfl hH
    · have hf := wp_t hc hf
      refine lv_aload_n hx hb dX3_whereWas_18 rfl (lv_at hl 0 rfl) ?_
      refine lv_iconst (v := (-1)) hx hb dX3_whereWas_19 (by decide) ?_
      obtain ⟨x15, hcl, hf⟩ := wp_b hf
      refine k_Vi0 F hK hH hA hl.1 ⟨Nat.zero_le _, Nat.zero_le _⟩ [.int (-1)] [] (ctX3_refuse ad yn ym yk yl yt yd yu ye yv yo y0 y1 yc yh (-1) hcl) (cwV 1 hts gX3_whereWas_X3_refuse rfl rfl rfl hdVX3_refuse ⟨Nat.le_of_ble_eq_true rfl, Nat.le_of_ble_eq_true rfl⟩) dX3_whereWas_20 0 rfl rfl rfl rfl rfl (Nat.le_of_ble_eq_true rfl) rfl (fun H locs hH => ?_)
      have hH : Hs D A s.heap (wMn cI cJ cQ ad yn ym yk yl yt yd yu x15.2 yv yo y0 y1 yc yh) H locs := hH
      refine W.eq (g2 := F0 m 23 ls [.int x15.1]) rfl ?_
      have hrs := wp_s hf
      subst hrs
      exact RET H locs ls 23 dX3_whereWas_23 rfl hH

def fX3_row (v1 : Int32) (yu : (Nat → Int32)) (ye : (Nat → Int32)) (yc : Int32) : Option (Int32 × (Nat → Int32) × (Nat → Int32) × Int32) :=
  if (0 : Int32) ≤ v1 then
    if (99 : Int32) < v1 then
      Option.bind (fX3_refuse (-6) ye) fun x1 =>
      some (x1.1, yu, x1.2, yc)
    else
      if yc < 16 then
        if ob yc 16 then none else
        some (yc + 1, upd yu (Int32.toNatClampNeg yc) v1, ye, yc + 1)
      else
        Option.bind (fX3_refuse (-6) ye) fun x2 =>
        some (x2.1, yu, x2.2, yc)
  else
    Option.bind (fX3_refuse (-4) ye) fun x3 =>
    some (x3.1, yu, x3.2, yc)

def rmX3_row : Room := { frames := 1, cells := 0, slots := 0, locals := 21 }
theorem mbX3_row_f261 : Cond.fieldLink RX3 261 (TX3 10).1 (TX3 10).2.1 (TX3 10).2.2.1 ∈ wsX3_row := by decide +kernel
theorem inX3_row_X3 : ∀ w ∈ wsX30, w ∈ wsX3_row := by decide +kernel
theorem mbX3_row_f36 : Cond.fieldLink RX3 36 (TX3 5).1 (TX3 5).2.1 (TX3 5).2.2.1 ∈ wsX3_row := by decide +kernel
theorem hdVX3_row : yX3_row.cls = RX3 ∧ yX3_row.cls ≠ "java/lang/invoke/MethodHandle" ∧ yX3_row.cls ≠ "java/lang/invoke/VarHandle" ∧ (parseMethodDescriptor yX3_row.desc).map (fun d => d.parameters.length) = some 1 := by decide +kernel
set_option maxHeartbeats 4000000 in
set_option maxRecDepth 100000 in
theorem ctX3_row {l : Launch} {D : va_G} {cI cJ cQ : ClassId} (ad : Nat → Nat) (yn : LandT) (ym : LandT) (yk : LandT) (yl : (Nat → Int32)) (yt : Int32) (yd : Int32) (yu : (Nat → Int32)) (ye : (Nat → Int32)) (yv : (Nat → Int32)) (yo : (Nat → Int64)) (y0 : (Nat → Int32)) (y1 : (Nat → Int32)) (yc : Int32) (yh : Int32) (v1 : Int32) {res : Int32 × (Nat → Int32) × (Nat → Int32) × Int32} (h : fX3_row v1 yu ye yc = some res) : CtI l D cI cJ cQ yX3_row wsX3_row rmX3_row [.ref (ad 0), .int v1] (wMn cI cJ cQ ad yn ym yk yl yt yd yu ye yv yo y0 y1 yc yh) res.1 (wMn cI cJ cQ ad yn ym yk yl yt yd res.2.1 res.2.2.1 yv yo y0 y1 res.2.2.2 yh) := by
  refine ctI_of .int (cc := cX3_row) (maxL := 2) (by decide) rfl (Nat.le_of_ble_eq_true rfl) ?_
  intro p e s m args below meth c A Q ls F hK hA RET hH hl
  obtain ⟨hx, hb, hml, hown, hts⟩ := id F
  have hl : lv_has ls 2 [(0, .ref (ad 0)), (1, .int v1)] := hl
  have hf : wpO (fX3_row v1 yu ye yc) (fun v => v = res) := ⟨_, h, rfl⟩
  obtain ⟨H, eH⟩ : ∃ H, H = s.heap := ⟨_, rfl⟩
  obtain ⟨locs, eL⟩ : ∃ locs : List Loc, locs = [] := ⟨_, rfl⟩
  have hH : Hs D A s.heap (wMn cI cJ cQ ad yn ym yk yl yt yd yu ye yv yo y0 y1 yc yh) H locs := by rw [eH, eL]; exact hH
  rw [← eL]
  suffices hgo : W p l e rmX3_row s m args below meth c H locs 0 0 Q (F0 m 0 ls []) by rw [eH] at hgo; exact hgo
  clear eH eL
  refine lv_iload_n hx hb dX3_row_0 rfl (lv_at hl 1 rfl) ?_
  refine lv_if_ge (tgt := 11) hx hb dX3_row_1 (by decide) (fun hc => ?_) (fun hc => ?_)
  · have hf := wp_t hc hf
    refine lv_iload_n hx hb dX3_row_11 rfl (lv_at hl 1 rfl) ?_
    refine lv_bipush (v := 99) hx hb dX3_row_12 (by decide) ?_
    refine lv_icmp_gt (tgt := 26) hx hb dX3_row_14 (by decide) (fun hc => ?_) (fun hc => ?_)
    · have hf := wp_t hc hf
      refine lv_aload_n hx hb dX3_row_26 rfl (lv_at hl 0 rfl) ?_
      refine lv_bipush (v := (-6)) hx hb dX3_row_27 (by decide) ?_
      obtain ⟨x1, hcl, hf⟩ := wp_b hf
      refine k_Vi0 F hK hH hA hl.1 ⟨Nat.zero_le _, Nat.zero_le _⟩ [.int (-6)] [] (ctX3_refuse ad yn ym yk yl yt yd yu ye yv yo y0 y1 yc yh (-6) hcl) (cwV 1 hts gX3_row_X3_refuse rfl rfl rfl hdVX3_refuse ⟨Nat.le_of_ble_eq_true rfl, Nat.le_of_ble_eq_true rfl⟩) dX3_row_29 0 rfl rfl rfl rfl rfl (Nat.le_of_ble_eq_true rfl) rfl (fun H locs hH => ?_)
      have hH : Hs D A s.heap (wMn cI cJ cQ ad yn ym yk yl yt yd yu x1.2 yv yo y0 y1 yc yh) H locs := hH
      refine W.eq (g2 := F0 m 32 ls [.int x1.1]) rfl ?_
      have hrs := wp_s hf
      subst hrs
      exact RET H locs ls 32 dX3_row_32 rfl hH
    · have hf := wp_f hc hf
      refine lv_aload_n hx hb dX3_row_17 rfl (lv_at hl 0 rfl) ?_
      refine k_get (v := .int yc) F hK hH 0 inX3_row_X3 10 mbX3_row_f261 dX3_row_18 rfl rfl (by decide) rfl ?_
      refine lv_bipush (v := 16) hx hb dX3_row_21 (by decide) ?_
      refine lv_icmp_lt (tgt := 33) hx hb dX3_row_23 (by decide) (fun hc => ?_) (fun hc => ?_)
      · have hf := wp_t hc hf
        refine lv_aload_n hx hb dX3_row_33 rfl (lv_at hl 0 rfl) ?_
        refine k_get (v := .ref (ad 28)) F hK hH 0 inX3_row_X3 5 mbX3_row_f36 dX3_row_34 rfl rfl (by decide) rfl ?_
        refine lv_aload_n hx hb dX3_row_37 rfl (lv_at hl 0 rfl) ?_
        refine k_get (v := .int yc) F hK hH 0 inX3_row_X3 10 mbX3_row_f261 dX3_row_38 rfl rfl (by decide) rfl ?_
        refine lv_iload_n hx hb dX3_row_41 rfl (lv_at hl 1 rfl) ?_
        obtain ⟨hi, hf⟩ := wp_n hf
        refine k_iast (f := yu) (n := 16) F hK hH 28 dX3_row_42 hi rfl (fun H locs hH => ?_)
        have hH : Hs D A s.heap (wMn cI cJ cQ ad yn ym yk yl yt yd (upd yu (Int32.toNatClampNeg yc) v1) ye yv yo y0 y1 yc yh) H locs := hH
        refine lv_aload_n hx hb dX3_row_43 rfl (lv_at hl 0 rfl) ?_
        refine lv_dup hx hb dX3_row_44 rfl ?_
        refine k_get (v := .int yc) F hK hH 0 inX3_row_X3 10 mbX3_row_f261 dX3_row_45 rfl rfl (by decide) rfl ?_
        refine lv_iconst (v := 1) hx hb dX3_row_48 (by decide) ?_
        refine lv_iadd hx hb dX3_row_49 ?_
        refine k_put (v := .int (yc + 1)) F hK hH 0 inX3_row_X3 tyX3 tyX3_ok nmX3 10 mbX3_row_f261 dX3_row_50 rfl rfl (by decide) rfl rfl rfl (Nat.le_of_ble_eq_true rfl) (fun H locs hH => ?_)
        have hH : Hs D A s.heap (wMn cI cJ cQ ad yn ym yk yl yt yd (upd yu (Int32.toNatClampNeg yc) v1) ye yv yo y0 y1 (yc + 1) yh) H locs := hH
        refine lv_aload_n hx hb dX3_row_53 rfl (lv_at hl 0 rfl) ?_
        refine k_get (v := .int (yc + 1)) F hK hH 0 inX3_row_X3 10 mbX3_row_f261 dX3_row_54 rfl rfl (by decide) rfl ?_
        have hrs := wp_s hf
        subst hrs
        exact RET H locs ls 57 dX3_row_57 rfl hH
      · have hf := wp_f hc hf
        refine lv_aload_n hx hb dX3_row_26 rfl (lv_at hl 0 rfl) ?_
        refine lv_bipush (v := (-6)) hx hb dX3_row_27 (by decide) ?_
        obtain ⟨x2, hcl, hf⟩ := wp_b hf
        refine k_Vi0 F hK hH hA hl.1 ⟨Nat.zero_le _, Nat.zero_le _⟩ [.int (-6)] [] (ctX3_refuse ad yn ym yk yl yt yd yu ye yv yo y0 y1 yc yh (-6) hcl) (cwV 1 hts gX3_row_X3_refuse rfl rfl rfl hdVX3_refuse ⟨Nat.le_of_ble_eq_true rfl, Nat.le_of_ble_eq_true rfl⟩) dX3_row_29 0 rfl rfl rfl rfl rfl (Nat.le_of_ble_eq_true rfl) rfl (fun H locs hH => ?_)
        have hH : Hs D A s.heap (wMn cI cJ cQ ad yn ym yk yl yt yd yu x2.2 yv yo y0 y1 yc yh) H locs := hH
        refine W.eq (g2 := F0 m 32 ls [.int x2.1]) rfl ?_
        have hrs := wp_s hf
        subst hrs
        exact RET H locs ls 32 dX3_row_32 rfl hH
  · have hf := wp_f hc hf
    refine lv_aload_n hx hb dX3_row_4 rfl (lv_at hl 0 rfl) ?_
    refine lv_bipush (v := (-4)) hx hb dX3_row_5 (by decide) ?_
    obtain ⟨x3, hcl, hf⟩ := wp_b hf
    refine k_Vi0 F hK hH hA hl.1 ⟨Nat.zero_le _, Nat.zero_le _⟩ [.int (-4)] [] (ctX3_refuse ad yn ym yk yl yt yd yu ye yv yo y0 y1 yc yh (-4) hcl) (cwV 1 hts gX3_row_X3_refuse rfl rfl rfl hdVX3_refuse ⟨Nat.le_of_ble_eq_true rfl, Nat.le_of_ble_eq_true rfl⟩) dX3_row_7 0 rfl rfl rfl rfl rfl (Nat.le_of_ble_eq_true rfl) rfl (fun H locs hH => ?_)
    have hH : Hs D A s.heap (wMn cI cJ cQ ad yn ym yk yl yt yd yu x3.2 yv yo y0 y1 yc yh) H locs := hH
    refine W.eq (g2 := F0 m 10 ls [.int x3.1]) rfl ?_
    have hrs := wp_s hf
    subst hrs
    exact RET H locs ls 10 dX3_row_10 rfl hH

def bX3_firstHeightNotSo_2 (yn : LandT) (yu : (Nat → Int32)) (yc : Int32) : (Int32) → Option ((Int32) ⊕ ((Int32) ⊕ (Unit))) := fun (t1 : Int32) =>
  if yc ≤ t1 then
    some (.inr (.inr ()))
  else
    Option.bind (fX3_isCell t1) fun x2 =>
    if x2 = 0 then
      some (.inr (.inl t1))
    else
      if ob t1 16 then none else
      if ob t1 16 then none else
      if ((gH yn) (Int32.toNatClampNeg t1)) = (yu (Int32.toNatClampNeg t1)) then
        some (.inl (t1 + 1))
      else
        some (.inr (.inl t1))

def fX3_firstHeightNotSo (yn : LandT) (yu : (Nat → Int32)) (yc : Int32) : Option (Int32) :=
  Option.bind (lp (bX3_firstHeightNotSo_2 yn yu yc) fu 0) (el (fun v => some v) (fun (_ : Unit) =>
    some (-9)))

def rmX3_firstHeightNotSo : Room := { frames := 2, cells := 0, slots := 0, locals := 42 }
theorem mbX3_firstHeightNotSo_f261 : Cond.fieldLink RX3 261 (TX3 10).1 (TX3 10).2.1 (TX3 10).2.2.1 ∈ wsX3_firstHeightNotSo := by decide +kernel
theorem inX3_firstHeightNotSo_X3 : ∀ w ∈ wsX30, w ∈ wsX3_firstHeightNotSo := by decide +kernel
theorem mbX3_firstHeightNotSo_f10 : Cond.fieldLink RX3 10 (TX3 0).1 (TX3 0).2.1 (TX3 0).2.2.1 ∈ wsX3_firstHeightNotSo := by decide +kernel
theorem mbX3_firstHeightNotSo_f118 : Cond.fieldLink RX3 118 (TX0 0).1 (TX0 0).2.1 (TX0 0).2.2.1 ∈ wsX3_firstHeightNotSo := by decide +kernel
theorem inX3_firstHeightNotSo_X0 : ∀ w ∈ wsX00, w ∈ wsX3_firstHeightNotSo := by decide +kernel
theorem mbX3_firstHeightNotSo_f36 : Cond.fieldLink RX3 36 (TX3 5).1 (TX3 5).2.1 (TX3 5).2.2.1 ∈ wsX3_firstHeightNotSo := by decide +kernel
theorem hdVX3_firstHeightNotSo : yX3_firstHeightNotSo.cls = RX3 ∧ yX3_firstHeightNotSo.cls ≠ "java/lang/invoke/MethodHandle" ∧ yX3_firstHeightNotSo.cls ≠ "java/lang/invoke/VarHandle" ∧ (parseMethodDescriptor yX3_firstHeightNotSo.desc).map (fun d => d.parameters.length) = some 0 := by decide +kernel
set_option maxHeartbeats 4000000 in
set_option maxRecDepth 100000 in
theorem ctX3_firstHeightNotSo {l : Launch} {D : va_G} {cI cJ cQ : ClassId} (ad : Nat → Nat) (yn : LandT) (ym : LandT) (yk : LandT) (yl : (Nat → Int32)) (yt : Int32) (yd : Int32) (yu : (Nat → Int32)) (ye : (Nat → Int32)) (yv : (Nat → Int32)) (yo : (Nat → Int64)) (y0 : (Nat → Int32)) (y1 : (Nat → Int32)) (yc : Int32) (yh : Int32)  {res : Int32} (h : fX3_firstHeightNotSo yn yu yc = some res) : CtI l D cI cJ cQ yX3_firstHeightNotSo wsX3_firstHeightNotSo rmX3_firstHeightNotSo [.ref (ad 0)] (wMn cI cJ cQ ad yn ym yk yl yt yd yu ye yv yo y0 y1 yc yh) res (wMn cI cJ cQ ad yn ym yk yl yt yd yu ye yv yo y0 y1 yc yh) := by
  refine ctI_of .int (cc := cX3_firstHeightNotSo) (maxL := 2) (by decide) rfl (Nat.le_of_ble_eq_true rfl) ?_
  intro p e s m args below meth c A Q ls F hK hA RET hH hl
  obtain ⟨hx, hb, hml, hown, hts⟩ := id F
  have hl : lv_has ls 2 [(0, .ref (ad 0))] := hl
  have hf : wpO (fX3_firstHeightNotSo yn yu yc) (fun v => v = res) := ⟨_, h, rfl⟩
  obtain ⟨H, eH⟩ : ∃ H, H = s.heap := ⟨_, rfl⟩
  obtain ⟨locs, eL⟩ : ∃ locs : List Loc, locs = [] := ⟨_, rfl⟩
  have hH : Hs D A s.heap (wMn cI cJ cQ ad yn ym yk yl yt yd yu ye yv yo y0 y1 yc yh) H locs := by rw [eH, eL]; exact hH
  rw [← eL]
  suffices hgo : W p l e rmX3_firstHeightNotSo s m args below meth c H locs 0 0 Q (F0 m 0 ls []) by rw [eH] at hgo; exact hgo
  clear eH eL
  refine lv_iconst (v := 0) hx hb dX3_firstHeightNotSo_0 (by decide) ?_
  refine lv_istore_n (lv' := [(1, .int 0), (0, .ref (ad 0))]) hx hb dX3_firstHeightNotSo_1 rfl hl (by decide) rfl (fun ls hl => ?_)
  have LP : ∀ (Φ : ((Int32) ⊕ (Unit)) → Prop), (∀ v : Int32, Φ (.inl v) → v = res) → (∀ (_ : Unit) (H : Heap) (locs : List Loc) (ls : Array Slot), Φ (.inr ()) → Hs D A s.heap (wMn cI cJ cQ ad yn ym yk yl yt yd yu ye yv yo y0 y1 yc yh) H locs → lv_has ls 2 [] → W p l e rmX3_firstHeightNotSo s m args below meth c H locs 0 0 Q (F0 m 43 ls [])) → ∀ (n : Nat) (t1 : Int32) (H : Heap) (locs : List Loc) (ls : Array Slot), wpO (lp (bX3_firstHeightNotSo_2 yn yu yc) n t1) Φ → Hs D A s.heap (wMn cI cJ cQ ad yn ym yk yl yt yd yu ye yv yo y0 y1 yc yh) H locs → lv_has ls 2 [(0, .ref (ad 0)), (1, .int t1)] → W p l e rmX3_firstHeightNotSo s m args below meth c H locs 0 0 Q (F0 m 2 ls []) := by
    intro Φ hret EX n
    induction n with
    | zero =>
      intro t1 H locs ls hf hH hl
      exact (wp_l0 hf).elim
    | succ n ih =>
      intro t1 H locs ls hf hH hl
      have hf := wp_l hf
      refine lv_iload_n hx hb dX3_firstHeightNotSo_2 rfl (lv_at hl 1 rfl) ?_
      refine lv_aload_n hx hb dX3_firstHeightNotSo_3 rfl (lv_at hl 0 rfl) ?_
      refine k_get (v := .int yc) F hK hH 0 inX3_firstHeightNotSo_X3 10 mbX3_firstHeightNotSo_f261 dX3_firstHeightNotSo_4 rfl rfl (by decide) rfl ?_
      refine lv_icmp_ge (tgt := 43) hx hb dX3_firstHeightNotSo_7 (by decide) (fun hc => ?_) (fun hc => ?_)
      · have hf := wp_t hc hf
        have hw := wp_out hf
        exact EX () _ _ _ hw hH (lv_sub hl [] rfl)
      · have hf := wp_f hc hf
        refine lv_iload_n hx hb dX3_firstHeightNotSo_10 rfl (lv_at hl 1 rfl) ?_
        obtain ⟨x2, hcl, hf⟩ := wp_b hf
        refine k_Si F hK hH hA hl.1 ⟨Nat.zero_le _, Nat.zero_le _⟩ [] [.int t1] [] (ctX3_isCell t1 hcl) (va_cwS 1 hts gX3_firstHeightNotSo_X3_isCell rfl rfl rfl hdSX3_isCell ⟨Nat.le_of_ble_eq_true rfl, Nat.le_of_ble_eq_true rfl⟩) dX3_firstHeightNotSo_11 rfl rfl (Nat.le_of_ble_eq_true rfl) rfl rfl (by decide) (fun H locs hH => ?_)
        have hH : Hs D A s.heap (wMn cI cJ cQ ad yn ym yk yl yt yd yu ye yv yo y0 y1 yc yh) H locs := hH
        refine lv_if_eq (tgt := 35) hx hb dX3_firstHeightNotSo_14 (by decide) (fun hc => ?_) (fun hc => ?_)
        · have hf := wp_t hc hf
          refine lv_iload_n hx hb dX3_firstHeightNotSo_35 rfl (lv_at hl 1 rfl) ?_
          have hrs := hret _ (wp_out hf)
          subst hrs
          exact RET H locs ls 36 dX3_firstHeightNotSo_36 rfl hH
        · have hf := wp_f hc hf
          refine lv_aload_n hx hb dX3_firstHeightNotSo_17 rfl (lv_at hl 0 rfl) ?_
          refine k_get (v := .ref (ad 1)) F hK hH 0 inX3_firstHeightNotSo_X3 0 mbX3_firstHeightNotSo_f10 dX3_firstHeightNotSo_18 rfl rfl (by decide) rfl ?_
          refine k_get (v := .ref (ad 2)) F hK hH 1 inX3_firstHeightNotSo_X0 0 mbX3_firstHeightNotSo_f118 dX3_firstHeightNotSo_21 rfl rfl (by decide) rfl ?_
          refine lv_iload_n hx hb dX3_firstHeightNotSo_24 rfl (lv_at hl 1 rfl) ?_
          obtain ⟨hi, hf⟩ := wp_n hf
          refine k_iald (f := gH yn) (n := 16) F hK hH 2 dX3_firstHeightNotSo_25 hi rfl ?_
          refine lv_aload_n hx hb dX3_firstHeightNotSo_26 rfl (lv_at hl 0 rfl) ?_
          refine k_get (v := .ref (ad 28)) F hK hH 0 inX3_firstHeightNotSo_X3 5 mbX3_firstHeightNotSo_f36 dX3_firstHeightNotSo_27 rfl rfl (by decide) rfl ?_
          refine lv_iload_n hx hb dX3_firstHeightNotSo_30 rfl (lv_at hl 1 rfl) ?_
          obtain ⟨hi, hf⟩ := wp_n hf
          refine k_iald (f := yu) (n := 16) F hK hH 28 dX3_firstHeightNotSo_31 hi rfl ?_
          refine lv_icmp_eq (tgt := 37) hx hb dX3_firstHeightNotSo_32 (by decide) (fun hc => ?_) (fun hc => ?_)
          · have hf := wp_t hc hf
            refine lv_iinc (v := t1 + 1) (lv' := [(1, .int (t1 + 1)), (0, .ref (ad 0))]) hx hb dX3_firstHeightNotSo_37 hl (k := 1) rfl rfl (by decide) rfl (fun ls hl => ?_)
            refine lv_goto (tgt := 2) hx hb dX3_firstHeightNotSo_40 (by decide) ?_
            have hw := wp_in hf
            exact ih _ _ _ _ hw hH (lv_sub hl [1, 0] rfl)
          · have hf := wp_f hc hf
            refine lv_iload_n hx hb dX3_firstHeightNotSo_35 rfl (lv_at hl 1 rfl) ?_
            have hrs := hret _ (wp_out hf)
            subst hrs
            exact RET H locs ls 36 dX3_firstHeightNotSo_36 rfl hH
  refine LP _ (fun v hv => by have h9 := wp_s hv; exact h9) (fun _ H locs ls hf hH hl => ?_) fu _ _ _ _ (wp_bb hf) hH (lv_sub hl [1, 0] rfl)
  refine lv_bipush (v := (-9)) hx hb dX3_firstHeightNotSo_43 (by decide) ?_
  have hrs := wp_s hf
  subst hrs
  exact RET H locs ls 45 dX3_firstHeightNotSo_45 rfl hH

def fX3_judge (yn : LandT) (yu : (Nat → Int32)) (yc : Int32) : Option (Int32 × Int32) :=
  Option.bind (fX3_firstHeightNotSo yn yu yc) fun x1 =>
  some (x1, 0)

def rmX3_judge : Room := { frames := 3, cells := 0, slots := 0, locals := 63 }
theorem mbX3_judge_f261 : Cond.fieldLink RX3 261 (TX3 10).1 (TX3 10).2.1 (TX3 10).2.2.1 ∈ wsX3_judge := by decide +kernel
theorem inX3_judge_X3 : ∀ w ∈ wsX30, w ∈ wsX3_judge := by decide +kernel
theorem hdVX3_judge : yX3_judge.cls = RX3 ∧ yX3_judge.cls ≠ "java/lang/invoke/MethodHandle" ∧ yX3_judge.cls ≠ "java/lang/invoke/VarHandle" ∧ (parseMethodDescriptor yX3_judge.desc).map (fun d => d.parameters.length) = some 0 := by decide +kernel
set_option maxHeartbeats 4000000 in
set_option maxRecDepth 100000 in
theorem ctX3_judge {l : Launch} {D : va_G} {cI cJ cQ : ClassId} (ad : Nat → Nat) (yn : LandT) (ym : LandT) (yk : LandT) (yl : (Nat → Int32)) (yt : Int32) (yd : Int32) (yu : (Nat → Int32)) (ye : (Nat → Int32)) (yv : (Nat → Int32)) (yo : (Nat → Int64)) (y0 : (Nat → Int32)) (y1 : (Nat → Int32)) (yc : Int32) (yh : Int32)  {res : Int32 × Int32} (h : fX3_judge yn yu yc = some res) : CtI l D cI cJ cQ yX3_judge wsX3_judge rmX3_judge [.ref (ad 0)] (wMn cI cJ cQ ad yn ym yk yl yt yd yu ye yv yo y0 y1 yc yh) res.1 (wMn cI cJ cQ ad yn ym yk yl yt yd yu ye yv yo y0 y1 res.2 yh) := by
  refine ctI_of .int (cc := cX3_judge) (maxL := 2) (by decide) rfl (Nat.le_of_ble_eq_true rfl) ?_
  intro p e s m args below meth c A Q ls F hK hA RET hH hl
  obtain ⟨hx, hb, hml, hown, hts⟩ := id F
  have hl : lv_has ls 2 [(0, .ref (ad 0))] := hl
  have hf : wpO (fX3_judge yn yu yc) (fun v => v = res) := ⟨_, h, rfl⟩
  obtain ⟨H, eH⟩ : ∃ H, H = s.heap := ⟨_, rfl⟩
  obtain ⟨locs, eL⟩ : ∃ locs : List Loc, locs = [] := ⟨_, rfl⟩
  have hH : Hs D A s.heap (wMn cI cJ cQ ad yn ym yk yl yt yd yu ye yv yo y0 y1 yc yh) H locs := by rw [eH, eL]; exact hH
  rw [← eL]
  suffices hgo : W p l e rmX3_judge s m args below meth c H locs 0 0 Q (F0 m 0 ls []) by rw [eH] at hgo; exact hgo
  clear eH eL
  refine lv_aload_n hx hb dX3_judge_0 rfl (lv_at hl 0 rfl) ?_
  obtain ⟨x1, hcl, hf⟩ := wp_b hf
  refine k_Vi0 F hK hH hA hl.1 ⟨Nat.zero_le _, Nat.zero_le _⟩ [] [] (ctX3_firstHeightNotSo ad yn ym yk yl yt yd yu ye yv yo y0 y1 yc yh hcl) (cwV 0 hts gX3_judge_X3_firstHeightNotSo rfl rfl rfl hdVX3_firstHeightNotSo ⟨Nat.le_of_ble_eq_true rfl, Nat.le_of_ble_eq_true rfl⟩) dX3_judge_1 0 rfl rfl rfl rfl rfl (Nat.le_of_ble_eq_true rfl) rfl (fun H locs hH => ?_)
  have hH : Hs D A s.heap (wMn cI cJ cQ ad yn ym yk yl yt yd yu ye yv yo y0 y1 yc yh) H locs := hH
  refine lv_istore_n (lv' := [(1, .int x1), (0, .ref (ad 0))]) hx hb dX3_judge_4 rfl hl (by decide) rfl (fun ls hl => ?_)
  refine lv_aload_n hx hb dX3_judge_5 rfl (lv_at hl 1 rfl) ?_
  refine lv_iconst (v := 0) hx hb dX3_judge_6 (by decide) ?_
  refine k_put (v := .int 0) F hK hH 0 inX3_judge_X3 tyX3 tyX3_ok nmX3 10 mbX3_judge_f261 dX3_judge_7 rfl rfl (by decide) rfl rfl rfl (Nat.le_of_ble_eq_true rfl) (fun H locs hH => ?_)
  have hH : Hs D A s.heap (wMn cI cJ cQ ad yn ym yk yl yt yd yu ye yv yo y0 y1 0 yh) H locs := hH
  refine lv_iload_n hx hb dX3_judge_10 rfl (lv_at hl 0 rfl) ?_
  have hrs := wp_s hf
  subst hrs
  exact RET H locs ls 11 dX3_judge_11 rfl hH

def fX3_clear (yc : Int32) : Option (Int32 × Int32) :=
  some (yc, 0)

def rmX3_clear : Room := { frames := 0, cells := 0, slots := 0, locals := 0 }
theorem mbX3_clear_f261 : Cond.fieldLink RX3 261 (TX3 10).1 (TX3 10).2.1 (TX3 10).2.2.1 ∈ wsX3_clear := by decide +kernel
theorem inX3_clear_X3 : ∀ w ∈ wsX30, w ∈ wsX3_clear := by decide +kernel
theorem hdVX3_clear : yX3_clear.cls = RX3 ∧ yX3_clear.cls ≠ "java/lang/invoke/MethodHandle" ∧ yX3_clear.cls ≠ "java/lang/invoke/VarHandle" ∧ (parseMethodDescriptor yX3_clear.desc).map (fun d => d.parameters.length) = some 0 := by decide +kernel
set_option maxHeartbeats 4000000 in
set_option maxRecDepth 100000 in
theorem ctX3_clear {l : Launch} {D : va_G} {cI cJ cQ : ClassId} (ad : Nat → Nat) (yn : LandT) (ym : LandT) (yk : LandT) (yl : (Nat → Int32)) (yt : Int32) (yd : Int32) (yu : (Nat → Int32)) (ye : (Nat → Int32)) (yv : (Nat → Int32)) (yo : (Nat → Int64)) (y0 : (Nat → Int32)) (y1 : (Nat → Int32)) (yc : Int32) (yh : Int32)  {res : Int32 × Int32} (h : fX3_clear yc = some res) : CtI l D cI cJ cQ yX3_clear wsX3_clear rmX3_clear [.ref (ad 0)] (wMn cI cJ cQ ad yn ym yk yl yt yd yu ye yv yo y0 y1 yc yh) res.1 (wMn cI cJ cQ ad yn ym yk yl yt yd yu ye yv yo y0 y1 res.2 yh) := by
  refine ctI_of .int (cc := cX3_clear) (maxL := 2) (by decide) rfl (Nat.le_of_ble_eq_true rfl) ?_
  intro p e s m args below meth c A Q ls F hK hA RET hH hl
  obtain ⟨hx, hb, hml, hown, hts⟩ := id F
  have hl : lv_has ls 2 [(0, .ref (ad 0))] := hl
  have hf : wpO (fX3_clear yc) (fun v => v = res) := ⟨_, h, rfl⟩
  obtain ⟨H, eH⟩ : ∃ H, H = s.heap := ⟨_, rfl⟩
  obtain ⟨locs, eL⟩ : ∃ locs : List Loc, locs = [] := ⟨_, rfl⟩
  have hH : Hs D A s.heap (wMn cI cJ cQ ad yn ym yk yl yt yd yu ye yv yo y0 y1 yc yh) H locs := by rw [eH, eL]; exact hH
  rw [← eL]
  suffices hgo : W p l e rmX3_clear s m args below meth c H locs 0 0 Q (F0 m 0 ls []) by rw [eH] at hgo; exact hgo
  clear eH eL
  refine lv_aload_n hx hb dX3_clear_0 rfl (lv_at hl 0 rfl) ?_
  refine k_get (v := .int yc) F hK hH 0 inX3_clear_X3 10 mbX3_clear_f261 dX3_clear_1 rfl rfl (by decide) rfl ?_
  refine lv_istore_n (lv' := [(1, .int yc), (0, .ref (ad 0))]) hx hb dX3_clear_4 rfl hl (by decide) rfl (fun ls hl => ?_)
  refine lv_aload_n hx hb dX3_clear_5 rfl (lv_at hl 1 rfl) ?_
  refine lv_iconst (v := 0) hx hb dX3_clear_6 (by decide) ?_
  refine k_put (v := .int 0) F hK hH 0 inX3_clear_X3 tyX3 tyX3_ok nmX3 10 mbX3_clear_f261 dX3_clear_7 rfl rfl (by decide) rfl rfl rfl (Nat.le_of_ble_eq_true rfl) (fun H locs hH => ?_)
  have hH : Hs D A s.heap (wMn cI cJ cQ ad yn ym yk yl yt yd yu ye yv yo y0 y1 0 yh) H locs := hH
  refine lv_iload_n hx hb dX3_clear_10 rfl (lv_at hl 0 rfl) ?_
  have hrs := wp_s hf
  subst hrs
  exact RET H locs ls 11 dX3_clear_11 rfl hH

