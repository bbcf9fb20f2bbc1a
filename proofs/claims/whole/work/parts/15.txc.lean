def fX3_land (yn : LandT) (ym : LandT) (yl : (Nat → Int32)) (yt : Int32) : Option (Int32 × LandT × LandT × Int32) :=
  Option.bind (fX3_inMind yn ym) fun x1 =>
  Option.bind (fX1_firstMisfit yl yt) fun x2 =>
  Option.bind (if x2 = (-1) then
      Option.bind (fX1_firstWrongFor yl yt x1) fun x5 =>
      some (x5.1, x5.2)
    else
      some ((-1), x1)) fun ((t3, t4) : Int32 × LandT) =>
  Option.bind (fX1_statements yl yt) fun x6 =>
  Option.bind (fX1_forget yt) fun x7 =>
  if x2 = (-1) then
    if t3 = (-1) then
      Option.bind (fX0_copyFrom yn t4) fun x8 =>
      some (x6, x8, t4, x7)
    else
      some ((-2000) - t3, yn, t4, x7)
  else
    some ((-1000) - x2, yn, t4, x7)

def rmX3_land : Room := { frames := 7, cells := 0, slots := 0, locals := 159 }
theorem mbX3_land_f25 : Cond.fieldLink RX3 25 (TX3 3).1 (TX3 3).2.1 (TX3 3).2.2.1 ∈ wsX3_land := by decide +kernel
theorem inX3_land_X3 : ∀ w ∈ wsX30, w ∈ wsX3_land := by decide +kernel
theorem mbX3_land_f10 : Cond.fieldLink RX3 10 (TX3 0).1 (TX3 0).2.1 (TX3 0).2.2.1 ∈ wsX3_land := by decide +kernel
theorem hdVX3_land : yX3_land.cls = RX3 ∧ yX3_land.cls ≠ "java/lang/invoke/MethodHandle" ∧ yX3_land.cls ≠ "java/lang/invoke/VarHandle" ∧ (parseMethodDescriptor yX3_land.desc).map (fun d => d.parameters.length) = some 0 := by decide +kernel
set_option maxHeartbeats 4000000 in
set_option maxRecDepth 100000 in
theorem ctX3_land {l : Launch} {D : va_G} {cI cJ cQ : ClassId} (aK aV : Nat → Nat) (ad : Nat → Nat) (yn : LandT) (ym : LandT) (yk : LandT) (yl : (Nat → Int32)) (yt : Int32) (yd : Int32) (yu : (Nat → Int32)) (ye : (Nat → Int32)) (yv : (Nat → Int32)) (yo : (Nat → Int64)) (y0 : (Nat → Int32)) (y1 : (Nat → Int32)) (yc : Int32) (yh : Int32)  {res : Int32 × LandT × LandT × Int32} (h : fX3_land yn ym yl yt = some res) : CtIT l D cI cJ cQ aK aV yX3_land wsX3_land rmX3_land [.ref (ad 0)] (wMn cI cJ cQ ad yn ym yk yl yt yd yu ye yv yo y0 y1 yc yh) res.1 (wMn cI cJ cQ ad res.2.1 res.2.2.1 yk yl res.2.2.2 yd yu ye yv yo y0 y1 yc yh) := by
  refine ctIT_of .int (cc := cX3_land) (maxL := 5) (by decide) rfl (Nat.le_of_ble_eq_true rfl) ?_
  intro p e s m args below meth c A Q ls F hK hT hA RET hH hl
  obtain ⟨hx, hb, hml, hown, hts⟩ := id F
  have hl : lv_has ls 5 [(0, .ref (ad 0))] := hl
  have hf : wpO (fX3_land yn ym yl yt) (fun v => v = res) := ⟨_, h, rfl⟩
  obtain ⟨H, eH⟩ : ∃ H, H = s.heap := ⟨_, rfl⟩
  obtain ⟨locs, eL⟩ : ∃ locs : List Loc, locs = [] := ⟨_, rfl⟩
  have hH : Hs D A s.heap (wMn cI cJ cQ ad yn ym yk yl yt yd yu ye yv yo y0 y1 yc yh) H locs := by rw [eH, eL]; exact hH
  rw [← eL]
  suffices hgo : W p l e rmX3_land s m args below meth c H locs 0 0 Q (F0 m 0 ls []) by rw [eH] at hgo; exact hgo
  clear eH eL
  refine lv_aload_n hx hb dX3_land_0 rfl (lv_at hl 0 rfl) ?_
  obtain ⟨x1, hcl, hf⟩ := wp_b hf
  refine k_Vr0 F hK hH hA hl.1 ⟨Nat.zero_le _, Nat.zero_le _⟩ [] [] (ctX3_inMind ad yn ym yk yl yt yd yu ye yv yo y0 y1 yc yh hcl) (cwV 0 hts gX3_land_X3_inMind rfl rfl rfl hdVX3_inMind ⟨Nat.le_of_ble_eq_true rfl, Nat.le_of_ble_eq_true rfl⟩) dX3_land_1 0 rfl rfl rfl rfl rfl (Nat.le_of_ble_eq_true rfl) rfl (fun H locs hH => ?_)
  have hH : Hs D A s.heap (wMn cI cJ cQ ad yn x1 yk yl yt yd yu ye yv yo y0 y1 yc yh) H locs := hH
  refine W.eq (g2 := F0 m 4 ls [.ref (ad 9)]) rfl ?_
  refine lv_astore_n (lv' := [(1, .ref (ad 9)), (0, .ref (ad 0))]) hx hb dX3_land_4 rfl hl (by decide) rfl (fun ls hl => ?_)
  refine lv_aload_n hx hb dX3_land_5 rfl (lv_at hl 1 rfl) ?_
  refine k_get (v := .ref (ad 25)) F hK hH 0 inX3_land_X3 3 mbX3_land_f25 dX3_land_6 rfl rfl (by decide) rfl ?_
  obtain ⟨x2, hcl, hf⟩ := wp_b hf
  refine k_ViT F hK hT hH hA hl.1 ⟨Nat.zero_le _, Nat.zero_le _⟩ [25, 26] [] [] (ctX1_firstMisfit aK aV (fun k => ad (25 + k)) yl yt hcl) (cwV 0 hts gX3_land_X1_firstMisfit rfl rfl rfl hdVX1_firstMisfit ⟨Nat.le_of_ble_eq_true rfl, Nat.le_of_ble_eq_true rfl⟩) dX3_land_9 (va_recv hK.1 hH.1 (ci := 1) (q0 := 25) rfl rfl) rfl rfl (Nat.le_of_ble_eq_true rfl) rfl rfl (by decide) (fun H locs hH => ?_)
  have hH : Hs D A s.heap (wMn cI cJ cQ ad yn x1 yk yl yt yd yu ye yv yo y0 y1 yc yh) H locs := hH
  refine lv_istore_n (lv' := [(2, .int x2), (1, .ref (ad 9)), (0, .ref (ad 0))]) hx hb dX3_land_12 rfl hl (by decide) rfl (fun ls hl => ?_)
  refine lv_iload_n hx hb dX3_land_13 rfl (lv_at hl 0 rfl) ?_
  refine lv_iconst (v := (-1)) hx hb dX3_land_14 (by decide) ?_
  refine join_ (α := Int32 × LandT) (fun Φ => ∀ (t3 : Int32) (t4 : LandT) (H : Heap) (locs : List Loc) (ls : Array Slot), Φ (t3, t4) → Hs D A s.heap (wMn cI cJ cQ ad yn t4 yk yl yt yd yu ye yv yo y0 y1 yc yh) H locs → lv_has ls 5 [(0, .ref (ad 0)), (1, .ref (ad 9)), (2, .int x2)] → W p l e rmX3_land s m args below meth c H locs 0 0 Q (F0 m 30 ls [.int t3])) (wp_bb hf) ?_ ?_
  · intro t3 t4 H locs ls hf hH hl
    refine lv_istore_n (lv' := [(3, .int t3), (0, .ref (ad 0)), (1, .ref (ad 9)), (2, .int x2)]) hx hb dX3_land_30 rfl hl (by decide) rfl (fun ls hl => ?_)
    refine lv_aload_n hx hb dX3_land_31 rfl (lv_at hl 1 rfl) ?_
    refine k_get (v := .ref (ad 25)) F hK hH 0 inX3_land_X3 3 mbX3_land_f25 dX3_land_32 rfl rfl (by decide) rfl ?_
    obtain ⟨x6, hcl, hf⟩ := wp_b hf
    refine k_Vi F hK hH hA hl.1 ⟨Nat.zero_le _, Nat.zero_le _⟩ [25, 26] [] [] (ctX1_statements (fun k => ad (25 + k)) yl yt hcl) (cwV 0 hts gX3_land_X1_statements rfl rfl rfl hdVX1_statements ⟨Nat.le_of_ble_eq_true rfl, Nat.le_of_ble_eq_true rfl⟩) dX3_land_35 25 rfl rfl rfl rfl rfl (Nat.le_of_ble_eq_true rfl) rfl rfl (by decide) (fun H locs hH => ?_)
    have hH : Hs D A s.heap (wMn cI cJ cQ ad yn t4 yk yl yt yd yu ye yv yo y0 y1 yc yh) H locs := hH
    refine lv_istore (lv' := [(4, .int x6), (3, .int t3), (0, .ref (ad 0)), (1, .ref (ad 9)), (2, .int x2)]) hx hb dX3_land_38 hl (by decide) rfl (fun ls hl => ?_)
    refine lv_aload_n hx hb dX3_land_40 rfl (lv_at hl 2 rfl) ?_
    refine k_get (v := .ref (ad 25)) F hK hH 0 inX3_land_X3 3 mbX3_land_f25 dX3_land_41 rfl rfl (by decide) rfl ?_
    obtain ⟨x7, hcl, hf⟩ := wp_b hf
    refine k_Vv F hK hH hA hl.1 ⟨Nat.zero_le _, Nat.zero_le _⟩ [25, 26] [] [] (ctX1_forget (fun k => ad (25 + k)) yl yt hcl) (cwV 0 hts gX3_land_X1_forget rfl rfl rfl hdVX1_forget ⟨Nat.le_of_ble_eq_true rfl, Nat.le_of_ble_eq_true rfl⟩) dX3_land_44 25 rfl rfl rfl rfl rfl (Nat.le_of_ble_eq_true rfl) rfl rfl (by decide) (fun H locs hH => ?_)
    have hH : Hs D A s.heap (wMn cI cJ cQ ad yn t4 yk yl x7 yd yu ye yv yo y0 y1 yc yh) H locs := hH
    refine lv_iload_n hx hb dX3_land_47 rfl (lv_at hl 4 rfl) ?_
    refine lv_iconst (v := (-1)) hx hb dX3_land_48 (by decide) ?_
    refine lv_icmp_eq (tgt := 58) hx hb dX3_land_49 (by decide) (fun hc => ?_) (fun hc => ?_)
    · have hf := wp_t hc hf
      refine lv_iload_n hx hb dX3_land_58 rfl (lv_at hl 1 rfl) ?_
      refine lv_iconst (v := (-1)) hx hb dX3_land_59 (by decide) ?_
      refine lv_icmp_eq (tgt := 69) hx hb dX3_land_60 (by decide) (fun hc => ?_) (fun hc => ?_)
      · have hf := wp_t hc hf
        refine lv_aload_n hx hb dX3_land_69 rfl (lv_at hl 2 rfl) ?_
        refine k_get (v := .ref (ad 1)) F hK hH 0 inX3_land_X3 0 mbX3_land_f10 dX3_land_70 rfl rfl (by decide) rfl ?_
        refine lv_aload_n hx hb dX3_land_73 rfl (lv_at hl 3 rfl) ?_
        obtain ⟨x8, hcl, hf⟩ := wp_b hf
        refine k_Vv F hK hH hA hl.1 ⟨Nat.zero_le _, Nat.zero_le _⟩ [1, 2, 3, 4, 5, 6, 7, 8, 9, 10, 11, 12, 13, 14, 15, 16] [.ref (ad 9)] [] (ctX0_copyFrom (fun k => ad (1 + k)) (fun k => ad (9 + k)) yn t4 hcl) (cwV 1 hts gX3_land_X0_copyFrom rfl rfl rfl hdVX0_copyFrom ⟨Nat.le_of_ble_eq_true rfl, Nat.le_of_ble_eq_true rfl⟩) dX3_land_74 1 rfl rfl rfl rfl rfl (Nat.le_of_ble_eq_true rfl) rfl rfl (by decide) (fun H locs hH => ?_)
        have hH : Hs D A s.heap (wMn cI cJ cQ ad x8 t4 yk yl x7 yd yu ye yv yo y0 y1 yc yh) H locs := hH
        refine lv_iload hx hb dX3_land_77 (lv_at hl 0 rfl) ?_
        have hrs := wp_s hf
        subst hrs
        exact RET H locs ls 79 dX3_land_79 rfl hH
      · have hf := wp_f hc hf
        refine lv_sipush (v := (-2000)) hx hb dX3_land_63 (by decide) ?_
        refine lv_iload_n hx hb dX3_land_66 rfl (lv_at hl 1 rfl) ?_
        refine lv_isub hx hb dX3_land_67 ?_
        have hrs := wp_s hf
        subst hrs
        exact RET H locs ls 68 dX3_land_68 rfl hH
    · have hf := wp_f hc hf
      refine lv_sipush (v := (-1000)) hx hb dX3_land_52 (by decide) ?_
      refine lv_iload_n hx hb dX3_land_55 rfl (lv_at hl 4 rfl) ?_
      refine lv_isub hx hb dX3_land_56 ?_
      have hrs := wp_s hf
      subst hrs
      exact RET H locs ls 57 dX3_land_57 rfl hH
  · intro Φ JJ hf
    refine lv_icmp_ne (tgt := 29) hx hb dX3_land_15 (by decide) (fun hc => ?_) (fun hc => ?_)
    · have hf := wp_f hc hf
      refine lv_iconst (v := (-1)) hx hb dX3_land_29 (by decide) ?_
      have hw := wp_s hf
      exact JJ _ _ _ _ _ hw hH (lv_sub hl [2, 1, 0] rfl)
    · have hf := wp_t hc hf
      refine lv_aload_n hx hb dX3_land_18 rfl (lv_at hl 2 rfl) ?_
      refine k_get (v := .ref (ad 25)) F hK hH 0 inX3_land_X3 3 mbX3_land_f25 dX3_land_19 rfl rfl (by decide) rfl ?_
      refine lv_aload_n hx hb dX3_land_22 rfl (lv_at hl 1 rfl) ?_
      obtain ⟨x5, hcl, hf⟩ := wp_b hf
      refine k_ViT F hK hT hH hA hl.1 ⟨Nat.zero_le _, Nat.zero_le _⟩ [25, 26, 9, 10, 11, 12, 13, 14, 15, 16] [.ref (ad 9)] [] (ctX1_firstWrongFor aK aV (fun k => ad (25 + k)) (fun k => ad (9 + k)) yl yt x1 hcl) (cwV 1 hts gX3_land_X1_firstWrongFor rfl rfl rfl hdVX1_firstWrongFor ⟨Nat.le_of_ble_eq_true rfl, Nat.le_of_ble_eq_true rfl⟩) dX3_land_23 (va_recv hK.1 hH.1 (ci := 1) (q0 := 25) rfl rfl) rfl rfl (Nat.le_of_ble_eq_true rfl) rfl rfl (by decide) (fun H locs hH => ?_)
      have hH : Hs D A s.heap (wMn cI cJ cQ ad yn x5.2 yk yl yt yd yu ye yv yo y0 y1 yc yh) H locs := hH
      refine W.eq (g2 := F0 m 26 ls [.int x5.1]) rfl ?_
      refine lv_goto (tgt := 30) hx hb dX3_land_26 (by decide) ?_
      have hw := wp_s hf
      exact JJ _ _ _ _ _ hw hH (lv_sub hl [2, 1, 0] rfl)

