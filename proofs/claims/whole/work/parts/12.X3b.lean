def fX3_drives (v1 : Int32) (v2 : Int32) (yn : LandT) (ye : (Nat → Int32)) : Option (Int32 × LandT × (Nat → Int32)) :=
  Option.bind (fX0_hasThing v1 yn) fun x1 =>
  if x1 = 0 then
    Option.bind (fX3_refuse (-1) ye) fun x2 =>
    some (x2.1, yn, x2.2)
  else
    Option.bind (fX3_isCell v2) fun x3 =>
    if x3 = 0 then
      Option.bind (fX3_refuse (-1) ye) fun x4 =>
      some (x4.1, yn, x4.2)
    else
      if ob v1 7 then none else
      if ob v1 7 then none else
      some ((gP yn) (Int32.toNatClampNeg v1), (gH yn, gR yn, gK yn, gF yn, upd (gP yn) (Int32.toNatClampNeg v1) v2, gV yn, gQ yn, gN yn, gD yn, gE yn, gT yn), ye)

def rmX3_drives : Room := { frames := 2, cells := 0, slots := 0, locals := 43 }
theorem mbX3_drives_f10 : Cond.fieldLink RX3 10 (TX3 0).1 (TX3 0).2.1 (TX3 0).2.2.1 ∈ wsX3_drives := by decide +kernel
theorem inX3_drives_X3 : ∀ w ∈ wsX30, w ∈ wsX3_drives := by decide +kernel
theorem mbX3_drives_f98 : Cond.fieldLink RX3 98 (TX0 4).1 (TX0 4).2.1 (TX0 4).2.2.1 ∈ wsX3_drives := by decide +kernel
theorem inX3_drives_X0 : ∀ w ∈ wsX00, w ∈ wsX3_drives := by decide +kernel
theorem hdVX3_drives : yX3_drives.cls = RX3 ∧ yX3_drives.cls ≠ "java/lang/invoke/MethodHandle" ∧ yX3_drives.cls ≠ "java/lang/invoke/VarHandle" ∧ (parseMethodDescriptor yX3_drives.desc).map (fun d => d.parameters.length) = some 2 := by decide +kernel
set_option maxHeartbeats 4000000 in
set_option maxRecDepth 100000 in
theorem ctX3_drives {l : Launch} {D : va_G} {cI cJ cQ : ClassId} (ad : Nat → Nat) (yn : LandT) (ym : LandT) (yk : LandT) (yl : (Nat → Int32)) (yt : Int32) (yd : Int32) (yu : (Nat → Int32)) (ye : (Nat → Int32)) (yv : (Nat → Int32)) (yo : (Nat → Int64)) (y0 : (Nat → Int32)) (y1 : (Nat → Int32)) (yc : Int32) (yh : Int32) (v1 : Int32) (v2 : Int32) {res : Int32 × LandT × (Nat → Int32)} (h : fX3_drives v1 v2 yn ye = some res) : CtI l D cI cJ cQ yX3_drives wsX3_drives rmX3_drives [.ref (ad 0), .int v1, .int v2] (wMn cI cJ cQ ad yn ym yk yl yt yd yu ye yv yo y0 y1 yc yh) res.1 (wMn cI cJ cQ ad res.2.1 ym yk yl yt yd yu res.2.2 yv yo y0 y1 yc yh) := by
  refine ctI_of .int (cc := cX3_drives) (maxL := 4) (by decide) rfl (Nat.le_of_ble_eq_true rfl) ?_
  intro p e s m args below meth c A Q ls F hK hA RET hH hl
  obtain ⟨hx, hb, hml, hown, hts⟩ := id F
  have hl : lv_has ls 4 [(0, .ref (ad 0)), (1, .int v1), (2, .int v2)] := hl
  have hf : wpO (fX3_drives v1 v2 yn ye) (fun v => v = res) := ⟨_, h, rfl⟩
  obtain ⟨H, eH⟩ : ∃ H, H = s.heap := ⟨_, rfl⟩
  obtain ⟨locs, eL⟩ : ∃ locs : List Loc, locs = [] := ⟨_, rfl⟩
  have hH : Hs D A s.heap (wMn cI cJ cQ ad yn ym yk yl yt yd yu ye yv yo y0 y1 yc yh) H locs := by rw [eH, eL]; exact hH
  rw [← eL]
  suffices hgo : W p l e rmX3_drives s m args below meth c H locs 0 0 Q (F0 m 0 ls []) by rw [eH] at hgo; exact hgo
  clear eH eL
  refine lv_aload_n hx hb dX3_drives_0 rfl (lv_at hl 0 rfl) ?_
  refine k_get (v := .ref (ad 1)) F hK hH 0 inX3_drives_X3 0 mbX3_drives_f10 dX3_drives_1 rfl rfl (by decide) rfl ?_
  refine lv_iload_n hx hb dX3_drives_4 rfl (lv_at hl 1 rfl) ?_
  obtain ⟨x1, hcl, hf⟩ := wp_b hf
  refine k_Vi F hK hH hA hl.1 ⟨Nat.zero_le _, Nat.zero_le _⟩ [1, 2, 3, 4, 5, 6, 7, 8] [.int v1] [] (ctX0_hasThing (fun k => ad (1 + k)) yn v1 hcl) (cwV 1 hts gX3_drives_X0_hasThing rfl rfl rfl hdVX0_hasThing ⟨Nat.le_of_ble_eq_true rfl, Nat.le_of_ble_eq_true rfl⟩) dX3_drives_5 1 rfl rfl rfl rfl rfl (Nat.le_of_ble_eq_true rfl) rfl rfl (by decide) (fun H locs hH => ?_)
  have hH : Hs D A s.heap (wMn cI cJ cQ ad yn ym yk yl yt yd yu ye yv yo y0 y1 yc yh) H locs := hH
  refine lv_if_eq (tgt := 18) hx hb dX3_drives_8 (by decide) (fun hc => ?_) (fun hc => ?_)
  · have hf := wp_t hc hf
    refine lv_aload_n hx hb dX3_drives_18 rfl (lv_at hl 0 rfl) ?_
    refine lv_iconst (v := (-1)) hx hb dX3_drives_19 (by decide) ?_
    obtain ⟨x2, hcl, hf⟩ := wp_b hf
    refine k_Vi0 F hK hH hA hl.1 ⟨Nat.zero_le _, Nat.zero_le _⟩ [.int (-1)] [] (ctX3_refuse ad yn ym yk yl yt yd yu ye yv yo y0 y1 yc yh (-1) hcl) (cwV 1 hts gX3_drives_X3_refuse rfl rfl rfl hdVX3_refuse ⟨Nat.le_of_ble_eq_true rfl, Nat.le_of_ble_eq_true rfl⟩) dX3_drives_20 0 rfl rfl rfl rfl rfl (Nat.le_of_ble_eq_true rfl) rfl (fun H locs hH => ?_)
    have hH : Hs D A s.heap (wMn cI cJ cQ ad yn ym yk yl yt yd yu x2.2 yv yo y0 y1 yc yh) H locs := hH
    refine W.eq (g2 := F0 m 23 ls [.int x2.1]) rfl ?_
    have hrs := wp_s hf
    subst hrs
    exact RET H locs ls 23 dX3_drives_23 rfl hH
  · have hf := wp_f hc hf
    refine lv_iload_n hx hb dX3_drives_11 rfl (lv_at hl 2 rfl) ?_
    obtain ⟨x3, hcl, hf⟩ := wp_b hf
    refine k_Si F hK hH hA hl.1 ⟨Nat.zero_le _, Nat.zero_le _⟩ [] [.int v2] [] (ctX3_isCell v2 hcl) (va_cwS 1 hts gX3_drives_X3_isCell rfl rfl rfl hdSX3_isCell ⟨Nat.le_of_ble_eq_true rfl, Nat.le_of_ble_eq_true rfl⟩) dX3_drives_12 rfl rfl (Nat.le_of_ble_eq_true rfl) rfl rfl (by decide) (fun H locs hH => ?_)
    have hH : Hs D A s.heap (wMn cI cJ cQ ad yn ym yk yl yt yd yu ye yv yo y0 y1 yc yh) H locs := hH
    refine lv_if_ne (tgt := 24) hx hb dX3_drives_15 (by decide) (fun hc => ?_) (fun hc => ?_)
    · have hf := wp_f hc hf
      refine lv_aload_n hx hb dX3_drives_24 rfl (lv_at hl 0 rfl) ?_
      refine k_get (v := .ref (ad 1)) F hK hH 0 inX3_drives_X3 0 mbX3_drives_f10 dX3_drives_25 rfl rfl (by decide) rfl ?_
      refine k_get (v := .ref (ad 6)) F hK hH 1 inX3_drives_X0 4 mbX3_drives_f98 dX3_drives_28 rfl rfl (by decide) rfl ?_
      refine lv_iload_n hx hb dX3_drives_31 rfl (lv_at hl 1 rfl) ?_
      obtain ⟨hi, hf⟩ := wp_n hf
      refine k_iald (f := gP yn) (n := 7) F hK hH 6 dX3_drives_32 hi rfl ?_
      refine lv_istore_n (lv' := [(3, .int ((gP yn) (Int32.toNatClampNeg v1))), (0, .ref (ad 0)), (1, .int v1), (2, .int v2)]) hx hb dX3_drives_33 rfl hl (by decide) rfl (fun ls hl => ?_)
      refine lv_aload_n hx hb dX3_drives_34 rfl (lv_at hl 1 rfl) ?_
      refine k_get (v := .ref (ad 1)) F hK hH 0 inX3_drives_X3 0 mbX3_drives_f10 dX3_drives_35 rfl rfl (by decide) rfl ?_
      refine k_get (v := .ref (ad 6)) F hK hH 1 inX3_drives_X0 4 mbX3_drives_f98 dX3_drives_38 rfl rfl (by decide) rfl ?_
      refine lv_iload_n hx hb dX3_drives_41 rfl (lv_at hl 2 rfl) ?_
      refine lv_iload_n hx hb dX3_drives_42 rfl (lv_at hl 3 rfl) ?_
      obtain ⟨hi, hf⟩ := wp_n hf
      refine k_iast (f := gP yn) (n := 7) F hK hH 6 dX3_drives_43 hi rfl (fun H locs hH => ?_)
      have hH : Hs D A s.heap (wMn cI cJ cQ ad (gH yn, gR yn, gK yn, gF yn, upd (gP yn) (Int32.toNatClampNeg v1) v2, gV yn, gQ yn, gN yn, gD yn, gE yn, gT yn) ym yk yl yt yd yu ye yv yo y0 y1 yc yh) H locs := hH
      refine lv_iload_n hx hb dX3_drives_44 rfl (lv_at hl 0 rfl) ?_
      have hrs := wp_s hf
      subst hrs
      exact RET H locs ls 45 dX3_drives_45 rfl hH
    · have hf := wp_t hc hf
      refine lv_aload_n hx hb dX3_drives_18 rfl (lv_at hl 0 rfl) ?_
      refine lv_iconst (v := (-1)) hx hb dX3_drives_19 (by decide) ?_
      obtain ⟨x4, hcl, hf⟩ := wp_b hf
      refine k_Vi0 F hK hH hA hl.1 ⟨Nat.zero_le _, Nat.zero_le _⟩ [.int (-1)] [] (ctX3_refuse ad yn ym yk yl yt yd yu ye yv yo y0 y1 yc yh (-1) hcl) (cwV 1 hts gX3_drives_X3_refuse rfl rfl rfl hdVX3_refuse ⟨Nat.le_of_ble_eq_true rfl, Nat.le_of_ble_eq_true rfl⟩) dX3_drives_20 0 rfl rfl rfl rfl rfl (Nat.le_of_ble_eq_true rfl) rfl (fun H locs hH => ?_)
      have hH : Hs D A s.heap (wMn cI cJ cQ ad yn ym yk yl yt yd yu x4.2 yv yo y0 y1 yc yh) H locs := hH
      refine W.eq (g2 := F0 m 23 ls [.int x4.1]) rfl ?_
      have hrs := wp_s hf
      subst hrs
      exact RET H locs ls 23 dX3_drives_23 rfl hH

def fX3_hides (v1 : Int32) (yn : LandT) (ye : (Nat → Int32)) : Option (Int32 × LandT × (Nat → Int32)) :=
  Option.bind (fX0_hasThing v1 yn) fun x1 =>
  if x1 = 0 then
    Option.bind (fX3_refuse (-1) ye) fun x4 =>
    some (x4.1, yn, x4.2)
  else
    Option.bind (fX0_turnHidden v1 yn) fun x2 =>
    Option.bind (fX0_isHidden v1 x2) fun x3 =>
    if x3 = 0 then
      some (0, x2, ye)
    else
      some (1, x2, ye)

def rmX3_hides : Room := { frames := 2, cells := 0, slots := 0, locals := 43 }
theorem mbX3_hides_f10 : Cond.fieldLink RX3 10 (TX3 0).1 (TX3 0).2.1 (TX3 0).2.2.1 ∈ wsX3_hides := by decide +kernel
theorem inX3_hides_X3 : ∀ w ∈ wsX30, w ∈ wsX3_hides := by decide +kernel
theorem hdVX3_hides : yX3_hides.cls = RX3 ∧ yX3_hides.cls ≠ "java/lang/invoke/MethodHandle" ∧ yX3_hides.cls ≠ "java/lang/invoke/VarHandle" ∧ (parseMethodDescriptor yX3_hides.desc).map (fun d => d.parameters.length) = some 1 := by decide +kernel
set_option maxHeartbeats 4000000 in
set_option maxRecDepth 100000 in
theorem ctX3_hides {l : Launch} {D : va_G} {cI cJ cQ : ClassId} (ad : Nat → Nat) (yn : LandT) (ym : LandT) (yk : LandT) (yl : (Nat → Int32)) (yt : Int32) (yd : Int32) (yu : (Nat → Int32)) (ye : (Nat → Int32)) (yv : (Nat → Int32)) (yo : (Nat → Int64)) (y0 : (Nat → Int32)) (y1 : (Nat → Int32)) (yc : Int32) (yh : Int32) (v1 : Int32) {res : Int32 × LandT × (Nat → Int32)} (h : fX3_hides v1 yn ye = some res) : CtI l D cI cJ cQ yX3_hides wsX3_hides rmX3_hides [.ref (ad 0), .int v1] (wMn cI cJ cQ ad yn ym yk yl yt yd yu ye yv yo y0 y1 yc yh) res.1 (wMn cI cJ cQ ad res.2.1 ym yk yl yt yd yu res.2.2 yv yo y0 y1 yc yh) := by
  refine ctI_of .int (cc := cX3_hides) (maxL := 2) (by decide) rfl (Nat.le_of_ble_eq_true rfl) ?_
  intro p e s m args below meth c A Q ls F hK hA RET hH hl
  obtain ⟨hx, hb, hml, hown, hts⟩ := id F
  have hl : lv_has ls 2 [(0, .ref (ad 0)), (1, .int v1)] := hl
  have hf : wpO (fX3_hides v1 yn ye) (fun v => v = res) := ⟨_, h, rfl⟩
  obtain ⟨H, eH⟩ : ∃ H, H = s.heap := ⟨_, rfl⟩
  obtain ⟨locs, eL⟩ : ∃ locs : List Loc, locs = [] := ⟨_, rfl⟩
  have hH : Hs D A s.heap (wMn cI cJ cQ ad yn ym yk yl yt yd yu ye yv yo y0 y1 yc yh) H locs := by rw [eH, eL]; exact hH
  rw [← eL]
  suffices hgo : W p l e rmX3_hides s m args below meth c H locs 0 0 Q (F0 m 0 ls []) by rw [eH] at hgo; exact hgo
  clear eH eL
  refine lv_aload_n hx hb dX3_hides_0 rfl (lv_at hl 0 rfl) ?_
  refine k_get (v := .ref (ad 1)) F hK hH 0 inX3_hides_X3 0 mbX3_hides_f10 dX3_hides_1 rfl rfl (by decide) rfl ?_
  refine lv_iload_n hx hb dX3_hides_4 rfl (lv_at hl 1 rfl) ?_
  obtain ⟨x1, hcl, hf⟩ := wp_b hf
  refine k_Vi F hK hH hA hl.1 ⟨Nat.zero_le _, Nat.zero_le _⟩ [1, 2, 3, 4, 5, 6, 7, 8] [.int v1] [] (ctX0_hasThing (fun k => ad (1 + k)) yn v1 hcl) (cwV 1 hts gX3_hides_X0_hasThing rfl rfl rfl hdVX0_hasThing ⟨Nat.le_of_ble_eq_true rfl, Nat.le_of_ble_eq_true rfl⟩) dX3_hides_5 1 rfl rfl rfl rfl rfl (Nat.le_of_ble_eq_true rfl) rfl rfl (by decide) (fun H locs hH => ?_)
  have hH : Hs D A s.heap (wMn cI cJ cQ ad yn ym yk yl yt yd yu ye yv yo y0 y1 yc yh) H locs := hH
  refine lv_if_ne (tgt := 17) hx hb dX3_hides_8 (by decide) (fun hc => ?_) (fun hc => ?_)
  · have hf := wp_f hc hf
    refine lv_aload_n hx hb dX3_hides_17 rfl (lv_at hl 0 rfl) ?_
    refine k_get (v := .ref (ad 1)) F hK hH 0 inX3_hides_X3 0 mbX3_hides_f10 dX3_hides_18 rfl rfl (by decide) rfl ?_
    refine lv_iload_n hx hb dX3_hides_21 rfl (lv_at hl 1 rfl) ?_
    obtain ⟨x2, hcl, hf⟩ := wp_b hf
    refine k_Vv F hK hH hA hl.1 ⟨Nat.zero_le _, Nat.zero_le _⟩ [1, 2, 3, 4, 5, 6, 7, 8] [.int v1] [] (ctX0_turnHidden (fun k => ad (1 + k)) yn v1 hcl) (cwV 1 hts gX3_hides_X0_turnHidden rfl rfl rfl hdVX0_turnHidden ⟨Nat.le_of_ble_eq_true rfl, Nat.le_of_ble_eq_true rfl⟩) dX3_hides_22 1 rfl rfl rfl rfl rfl (Nat.le_of_ble_eq_true rfl) rfl rfl (by decide) (fun H locs hH => ?_)
    have hH : Hs D A s.heap (wMn cI cJ cQ ad x2 ym yk yl yt yd yu ye yv yo y0 y1 yc yh) H locs := hH
    refine lv_aload_n hx hb dX3_hides_25 rfl (lv_at hl 0 rfl) ?_
    refine k_get (v := .ref (ad 1)) F hK hH 0 inX3_hides_X3 0 mbX3_hides_f10 dX3_hides_26 rfl rfl (by decide) rfl ?_
    refine lv_iload_n hx hb dX3_hides_29 rfl (lv_at hl 1 rfl) ?_
    obtain ⟨x3, hcl, hf⟩ := wp_b hf
    refine k_Vi F hK hH hA hl.1 ⟨Nat.zero_le _, Nat.zero_le _⟩ [1, 2, 3, 4, 5, 6, 7, 8] [.int v1] [] (ctX0_isHidden (fun k => ad (1 + k)) x2 v1 hcl) (cwV 1 hts gX3_hides_X0_isHidden rfl rfl rfl hdVX0_isHidden ⟨Nat.le_of_ble_eq_true rfl, Nat.le_of_ble_eq_true rfl⟩) dX3_hides_30 1 rfl rfl rfl rfl rfl (Nat.le_of_ble_eq_true rfl) rfl rfl (by decide) (fun H locs hH => ?_)
    have hH : Hs D A s.heap (wMn cI cJ cQ ad x2 ym yk yl yt yd yu ye yv yo y0 y1 yc yh) H locs := hH
    refine lv_if_eq (tgt := 40) hx hb dX3_hides_33 (by decide) (fun hc => ?_) (fun hc => ?_)
    · have hf := wp_t hc hf
      refine lv_iconst (v := 0) hx hb dX3_hides_40 (by decide) ?_
      have hrs := wp_s hf
      subst hrs
      exact RET H locs ls 41 dX3_hides_41 rfl hH
    · have hf := wp_f hc hf
      refine lv_iconst (v := 1) hx hb dX3_hides_36 (by decide) ?_
      refine lv_goto (tgt := 41) hx hb dX3_hides_37 (by decide) ?_
      have hrs := wp_s hf
      subst hrs
      exact RET H locs ls 41 dX3_hides_41 rfl hH
  · have hf := wp_t hc hf
    refine lv_aload_n hx hb dX3_hides_11 rfl (lv_at hl 0 rfl) ?_
    refine lv_iconst (v := (-1)) hx hb dX3_hides_12 (by decide) ?_
    obtain ⟨x4, hcl, hf⟩ := wp_b hf
    refine k_Vi0 F hK hH hA hl.1 ⟨Nat.zero_le _, Nat.zero_le _⟩ [.int (-1)] [] (ctX3_refuse ad yn ym yk yl yt yd yu ye yv yo y0 y1 yc yh (-1) hcl) (cwV 1 hts gX3_hides_X3_refuse rfl rfl rfl hdVX3_refuse ⟨Nat.le_of_ble_eq_true rfl, Nat.le_of_ble_eq_true rfl⟩) dX3_hides_13 0 rfl rfl rfl rfl rfl (Nat.le_of_ble_eq_true rfl) rfl (fun H locs hH => ?_)
    have hH : Hs D A s.heap (wMn cI cJ cQ ad yn ym yk yl yt yd yu x4.2 yv yo y0 y1 yc yh) H locs := hH
    refine W.eq (g2 := F0 m 16 ls [.int x4.1]) rfl ?_
    have hrs := wp_s hf
    subst hrs
    exact RET H locs ls 16 dX3_hides_16 rfl hH

def fX3_isVerdict (v0 : Int32) : Option (Int32) :=
  Option.bind (fX3_isWithin v0 0 2) fun x1 =>
  (bo x1).bind fun z2 =>
  some z2

def rmX3_isVerdict : Room := { frames := 1, cells := 0, slots := 0, locals := 22 }
theorem hdSX3_isVerdict : yX3_isVerdict.cls ≠ "java/lang/invoke/MethodHandle" ∧ yX3_isVerdict.cls ≠ "java/lang/invoke/VarHandle" ∧ (parseMethodDescriptor yX3_isVerdict.desc).map (fun d => d.parameters.length) = some 1 := by decide +kernel
set_option maxHeartbeats 4000000 in
set_option maxRecDepth 100000 in
theorem ctX3_isVerdict {l : Launch} {D : va_G} {cI cJ cQ : ClassId}   (v0 : Int32) {res : Int32} (h : fX3_isVerdict v0 = some res) : CtI l D cI cJ cQ yX3_isVerdict wsX3_isVerdict rmX3_isVerdict [.int v0] ([]) res ([]) := by
  refine ctI_of .boolean (cc := cX3_isVerdict) (maxL := 1) (by decide) rfl (Nat.le_of_ble_eq_true rfl) ?_
  intro p e s m args below meth c A Q ls F hK hA RET hH hl
  obtain ⟨hx, hb, hml, hown, hts⟩ := id F
  have hl : lv_has ls 1 [(0, .int v0)] := hl
  have hf : wpO (fX3_isVerdict v0) (fun v => v = res) := ⟨_, h, rfl⟩
  obtain ⟨H, eH⟩ : ∃ H, H = s.heap := ⟨_, rfl⟩
  obtain ⟨locs, eL⟩ : ∃ locs : List Loc, locs = [] := ⟨_, rfl⟩
  have hH : Hs D A s.heap ([]) H locs := by rw [eH, eL]; exact hH
  rw [← eL]
  suffices hgo : W p l e rmX3_isVerdict s m args below meth c H locs 0 0 Q (F0 m 0 ls []) by rw [eH] at hgo; exact hgo
  clear eH eL
  refine lv_iload_n hx hb dX3_isVerdict_0 rfl (lv_at hl 0 rfl) ?_
  refine lv_iconst (v := 0) hx hb dX3_isVerdict_1 (by decide) ?_
  refine lv_iconst (v := 2) hx hb dX3_isVerdict_2 (by decide) ?_
  obtain ⟨x1, hcl, hf⟩ := wp_b hf
  refine k_Si F hK hH hA hl.1 ⟨Nat.zero_le _, Nat.zero_le _⟩ [] [.int v0, .int 0, .int 2] [] (ctX3_isWithin v0 0 2 hcl) (va_cwS 3 hts gX3_isVerdict_X3_isWithin rfl rfl rfl hdSX3_isWithin ⟨Nat.le_of_ble_eq_true rfl, Nat.le_of_ble_eq_true rfl⟩) dX3_isVerdict_3 rfl rfl (Nat.le_of_ble_eq_true rfl) rfl rfl (by decide) (fun H locs hH => ?_)
  have hH : Hs D A s.heap ([]) H locs := hH
  obtain ⟨z2, hbo, hf⟩ := wp_b hf
  obtain ⟨hbe, hnb⟩ := bo_narrow hbo
  rw [hbe] at hf
  have hrs := wp_s hf
  subst hrs
  exact RET H locs ls 6 dX3_isVerdict_6 hnb hH

def fX3_decrees (v1 : Int32) (v2 : Int32) (v3 : Int32) (yn : LandT) (ye : (Nat → Int32)) : Option (Int32 × LandT × (Nat → Int32)) :=
  Option.bind (fX3_isKind v1) fun x1 =>
  if x1 = 0 then
    Option.bind (fX3_refuse (-2) ye) fun x2 =>
    some (x2.1, yn, x2.2)
  else
    Option.bind (fX3_isVerdict v2) fun x3 =>
    if x3 = 0 then
      Option.bind (fX3_refuse (-2) ye) fun x8 =>
      some (x8.1, yn, x8.2)
    else
      Option.bind (fX3_isWithin v3 0 9) fun x4 =>
      if x4 = 0 then
        Option.bind (if (0 : Int32) ≤ v3 then
            some (-6)
          else
            some (-4)) fun (t6 : Int32) =>
        Option.bind (fX3_refuse t6 ye) fun x7 =>
        some (x7.1, yn, x7.2)
      else
        if ob v1 6 then none else
        if ob v1 6 then none else
        Option.bind (fX0_decree v1 v2 v3 yn) fun x5 =>
        some ((10 * ((gV yn) (Int32.toNatClampNeg v1))) + ((gQ yn) (Int32.toNatClampNeg v1)), x5, ye)

def rmX3_decrees : Room := { frames := 2, cells := 0, slots := 0, locals := 42 }
theorem mbX3_decrees_f10 : Cond.fieldLink RX3 10 (TX3 0).1 (TX3 0).2.1 (TX3 0).2.2.1 ∈ wsX3_decrees := by decide +kernel
theorem inX3_decrees_X3 : ∀ w ∈ wsX30, w ∈ wsX3_decrees := by decide +kernel
theorem mbX3_decrees_f127 : Cond.fieldLink RX3 127 (TX0 5).1 (TX0 5).2.1 (TX0 5).2.2.1 ∈ wsX3_decrees := by decide +kernel
theorem inX3_decrees_X0 : ∀ w ∈ wsX00, w ∈ wsX3_decrees := by decide +kernel
theorem mbX3_decrees_f130 : Cond.fieldLink RX3 130 (TX0 6).1 (TX0 6).2.1 (TX0 6).2.2.1 ∈ wsX3_decrees := by decide +kernel
theorem hdVX3_decrees : yX3_decrees.cls = RX3 ∧ yX3_decrees.cls ≠ "java/lang/invoke/MethodHandle" ∧ yX3_decrees.cls ≠ "java/lang/invoke/VarHandle" ∧ (parseMethodDescriptor yX3_decrees.desc).map (fun d => d.parameters.length) = some 3 := by decide +kernel
set_option maxHeartbeats 4000000 in
set_option maxRecDepth 100000 in
theorem ctX3_decrees {l : Launch} {D : va_G} {cI cJ cQ : ClassId} (ad : Nat → Nat) (yn : LandT) (ym : LandT) (yk : LandT) (yl : (Nat → Int32)) (yt : Int32) (yd : Int32) (yu : (Nat → Int32)) (ye : (Nat → Int32)) (yv : (Nat → Int32)) (yo : (Nat → Int64)) (y0 : (Nat → Int32)) (y1 : (Nat → Int32)) (yc : Int32) (yh : Int32) (v1 : Int32) (v2 : Int32) (v3 : Int32) {res : Int32 × LandT × (Nat → Int32)} (h : fX3_decrees v1 v2 v3 yn ye = some res) : CtI l D cI cJ cQ yX3_decrees wsX3_decrees rmX3_decrees [.ref (ad 0), .int v1, .int v2, .int v3] (wMn cI cJ cQ ad yn ym yk yl yt yd yu ye yv yo y0 y1 yc yh) res.1 (wMn cI cJ cQ ad res.2.1 ym yk yl yt yd yu res.2.2 yv yo y0 y1 yc yh) := by
  refine ctI_of .int (cc := cX3_decrees) (maxL := 5) (by decide) rfl (Nat.le_of_ble_eq_true rfl) ?_
  intro p e s m args below meth c A Q ls F hK hA RET hH hl
  obtain ⟨hx, hb, hml, hown, hts⟩ := id F
  have hl : lv_has ls 5 [(0, .ref (ad 0)), (1, .int v1), (2, .int v2), (3, .int v3)] := hl
  have hf : wpO (fX3_decrees v1 v2 v3 yn ye) (fun v => v = res) := ⟨_, h, rfl⟩
  obtain ⟨H, eH⟩ : ∃ H, H = s.heap := ⟨_, rfl⟩
  obtain ⟨locs, eL⟩ : ∃ locs : List Loc, locs = [] := ⟨_, rfl⟩
  have hH : Hs D A s.heap (wMn cI cJ cQ ad yn ym yk yl yt yd yu ye yv yo y0 y1 yc yh) H locs := by rw [eH, eL]; exact hH
  rw [← eL]
  suffices hgo : W p l e rmX3_decrees s m args below meth c H locs 0 0 Q (F0 m 0 ls []) by rw [eH] at hgo; exact hgo
  clear eH eL
  refine lv_iload_n hx hb dX3_decrees_0 rfl (lv_at hl 1 rfl) ?_
  obtain ⟨x1, hcl, hf⟩ := wp_b hf
  refine k_Si F hK hH hA hl.1 ⟨Nat.zero_le _, Nat.zero_le _⟩ [] [.int v1] [] (ctX3_isKind v1 hcl) (va_cwS 1 hts gX3_decrees_X3_isKind rfl rfl rfl hdSX3_isKind ⟨Nat.le_of_ble_eq_true rfl, Nat.le_of_ble_eq_true rfl⟩) dX3_decrees_1 rfl rfl (Nat.le_of_ble_eq_true rfl) rfl rfl (by decide) (fun H locs hH => ?_)
  have hH : Hs D A s.heap (wMn cI cJ cQ ad yn ym yk yl yt yd yu ye yv yo y0 y1 yc yh) H locs := hH
  refine lv_if_eq (tgt := 14) hx hb dX3_decrees_4 (by decide) (fun hc => ?_) (fun hc => ?_)
  · have hf := wp_t hc hf
    refine lv_aload_n hx hb dX3_decrees_14 rfl (lv_at hl 0 rfl) ?_
    refine lv_bipush (v := (-2)) hx hb dX3_decrees_15 (by decide) ?_
    obtain ⟨x2, hcl, hf⟩ := wp_b hf
    refine k_Vi0 F hK hH hA hl.1 ⟨Nat.zero_le _, Nat.zero_le _⟩ [.int (-2)] [] (ctX3_refuse ad yn ym yk yl yt yd yu ye yv yo y0 y1 yc yh (-2) hcl) (cwV 1 hts gX3_decrees_X3_refuse rfl rfl rfl hdVX3_refuse ⟨Nat.le_of_ble_eq_true rfl, Nat.le_of_ble_eq_true rfl⟩) dX3_decrees_17 0 rfl rfl rfl rfl rfl (Nat.le_of_ble_eq_true rfl) rfl (fun H locs hH => ?_)
    have hH : Hs D A s.heap (wMn cI cJ cQ ad yn ym yk yl yt yd yu x2.2 yv yo y0 y1 yc yh) H locs := hH
    refine W.eq (g2 := F0 m 20 ls [.int x2.1]) rfl ?_
    have hrs := wp_s hf
    subst hrs
    exact RET H locs ls 20 dX3_decrees_20 rfl hH
  · have hf := wp_f hc hf
    refine lv_iload_n hx hb dX3_decrees_7 rfl (lv_at hl 2 rfl) ?_
    obtain ⟨x3, hcl, hf⟩ := wp_b hf
    refine k_Si F hK hH hA hl.1 ⟨Nat.zero_le _, Nat.zero_le _⟩ [] [.int v2] [] (ctX3_isVerdict v2 hcl) (va_cwS 1 hts gX3_decrees_X3_isVerdict rfl rfl rfl hdSX3_isVerdict ⟨Nat.le_of_ble_eq_true rfl, Nat.le_of_ble_eq_true rfl⟩) dX3_decrees_8 rfl rfl (Nat.le_of_ble_eq_true rfl) rfl rfl (by decide) (fun H locs hH => ?_)
    have hH : Hs D A s.heap (wMn cI cJ cQ ad yn ym yk yl yt yd yu ye yv yo y0 y1 yc yh) H locs := hH
    refine lv_if_ne (tgt := 21) hx hb dX3_decrees_11 (by decide) (fun hc => ?_) (fun hc => ?_)
    · have hf := wp_f hc hf
      refine lv_iload_n hx hb dX3_decrees_21 rfl (lv_at hl 3 rfl) ?_
      refine lv_iconst (v := 0) hx hb dX3_decrees_22 (by decide) ?_
      refine lv_bipush (v := 9) hx hb dX3_decrees_23 (by decide) ?_
      obtain ⟨x4, hcl, hf⟩ := wp_b hf
      refine k_Si F hK hH hA hl.1 ⟨Nat.zero_le _, Nat.zero_le _⟩ [] [.int v3, .int 0, .int 9] [] (ctX3_isWithin v3 0 9 hcl) (va_cwS 3 hts gX3_decrees_X3_isWithin rfl rfl rfl hdSX3_isWithin ⟨Nat.le_of_ble_eq_true rfl, Nat.le_of_ble_eq_true rfl⟩) dX3_decrees_25 rfl rfl (Nat.le_of_ble_eq_true rfl) rfl rfl (by decide) (fun H locs hH => ?_)
      have hH : Hs D A s.heap (wMn cI cJ cQ ad yn ym yk yl yt yd yu ye yv yo y0 y1 yc yh) H locs := hH
      refine lv_if_ne (tgt := 47) hx hb dX3_decrees_28 (by decide) (fun hc => ?_) (fun hc => ?_)
      · have hf := wp_f hc hf
        refine lv_bipush (v := 10) hx hb dX3_decrees_47 (by decide) ?_
        refine lv_aload_n hx hb dX3_decrees_49 rfl (lv_at hl 0 rfl) ?_
        refine k_get (v := .ref (ad 1)) F hK hH 0 inX3_decrees_X3 0 mbX3_decrees_f10 dX3_decrees_50 rfl rfl (by decide) rfl ?_
        refine k_get (v := .ref (ad 7)) F hK hH 1 inX3_decrees_X0 5 mbX3_decrees_f127 dX3_decrees_53 rfl rfl (by decide) rfl ?_
        refine lv_iload_n hx hb dX3_decrees_56 rfl (lv_at hl 1 rfl) ?_
        obtain ⟨hi, hf⟩ := wp_n hf
        refine k_iald (f := gV yn) (n := 6) F hK hH 7 dX3_decrees_57 hi rfl ?_
        refine lv_imul hx hb dX3_decrees_58 ?_
        refine lv_aload_n hx hb dX3_decrees_59 rfl (lv_at hl 0 rfl) ?_
        refine k_get (v := .ref (ad 1)) F hK hH 0 inX3_decrees_X3 0 mbX3_decrees_f10 dX3_decrees_60 rfl rfl (by decide) rfl ?_
        refine k_get (v := .ref (ad 8)) F hK hH 1 inX3_decrees_X0 6 mbX3_decrees_f130 dX3_decrees_63 rfl rfl (by decide) rfl ?_
        refine lv_iload_n hx hb dX3_decrees_66 rfl (lv_at hl 1 rfl) ?_
        obtain ⟨hi, hf⟩ := wp_n hf
        refine k_iald (f := gQ yn) (n := 6) F hK hH 8 dX3_decrees_67 hi rfl ?_
        refine lv_iadd hx hb dX3_decrees_68 ?_
        refine lv_istore (lv' := [(4, .int ((10 * ((gV yn) (Int32.toNatClampNeg v1))) + ((gQ yn) (Int32.toNatClampNeg v1)))), (0, .ref (ad 0)), (1, .int v1), (2, .int v2), (3, .int v3)]) hx hb dX3_decrees_69 hl (by decide) rfl (fun ls hl => ?_)
        refine lv_aload_n hx hb dX3_decrees_71 rfl (lv_at hl 1 rfl) ?_
        refine k_get (v := .ref (ad 1)) F hK hH 0 inX3_decrees_X3 0 mbX3_decrees_f10 dX3_decrees_72 rfl rfl (by decide) rfl ?_
        refine lv_iload_n hx hb dX3_decrees_75 rfl (lv_at hl 2 rfl) ?_
        refine lv_iload_n hx hb dX3_decrees_76 rfl (lv_at hl 3 rfl) ?_
        refine lv_iload_n hx hb dX3_decrees_77 rfl (lv_at hl 4 rfl) ?_
        obtain ⟨x5, hcl, hf⟩ := wp_b hf
        refine k_Vv F hK hH hA hl.1 ⟨Nat.zero_le _, Nat.zero_le _⟩ [1, 2, 3, 4, 5, 6, 7, 8] [.int v1, .int v2, .int v3] [] (ctX0_decree (fun k => ad (1 + k)) yn v1 v2 v3 hcl) (cwV 3 hts gX3_decrees_X0_decree rfl rfl rfl hdVX0_decree ⟨Nat.le_of_ble_eq_true rfl, Nat.le_of_ble_eq_true rfl⟩) dX3_decrees_78 1 rfl rfl rfl rfl rfl (Nat.le_of_ble_eq_true rfl) rfl rfl (by decide) (fun H locs hH => ?_)
        have hH : Hs D A s.heap (wMn cI cJ cQ ad x5 ym yk yl yt yd yu ye yv yo y0 y1 yc yh) H locs := hH
        refine lv_iload hx hb dX3_decrees_81 (lv_at hl 0 rfl) ?_
        have hrs := wp_s hf
        subst hrs
        exact RET H locs ls 83 dX3_decrees_83 rfl hH
      · have hf := wp_t hc hf
        refine lv_aload_n hx hb dX3_decrees_31 rfl (lv_at hl 0 rfl) ?_
        refine lv_iload_n hx hb dX3_decrees_32 rfl (lv_at hl 3 rfl) ?_
        refine join_ (α := Int32) (fun Φ => ∀ (t6 : Int32) (H : Heap) (locs : List Loc) (ls : Array Slot), Φ t6 → Hs D A s.heap (wMn cI cJ cQ ad yn ym yk yl yt yd yu ye yv yo y0 y1 yc yh) H locs → lv_has ls 5 [] → W p l e rmX3_decrees s m args below meth c H locs 0 0 Q (F0 m 43 ls [.int t6, .ref (ad 0)])) (wp_bb hf) ?_ ?_
        · intro t6 H locs ls hf hH hl
          obtain ⟨x7, hcl, hf⟩ := wp_b hf
          refine k_Vi0 F hK hH hA hl.1 ⟨Nat.zero_le _, Nat.zero_le _⟩ [.int t6] [] (ctX3_refuse ad yn ym yk yl yt yd yu ye yv yo y0 y1 yc yh t6 hcl) (cwV 1 hts gX3_decrees_X3_refuse rfl rfl rfl hdVX3_refuse ⟨Nat.le_of_ble_eq_true rfl, Nat.le_of_ble_eq_true rfl⟩) dX3_decrees_43 0 rfl rfl rfl rfl rfl (Nat.le_of_ble_eq_true rfl) rfl (fun H locs hH => ?_)
          have hH : Hs D A s.heap (wMn cI cJ cQ ad yn ym yk yl yt yd yu x7.2 yv yo y0 y1 yc yh) H locs := hH
          refine W.eq (g2 := F0 m 46 ls [.int x7.1]) rfl ?_
          have hrs := wp_s hf
          subst hrs
          exact RET H locs ls 46 dX3_decrees_46 rfl hH
        · intro Φ JJ hf
          refine lv_if_ge (tgt := 41) hx hb dX3_decrees_33 (by decide) (fun hc => ?_) (fun hc => ?_)
          · have hf := wp_t hc hf
            refine lv_bipush (v := (-6)) hx hb dX3_decrees_41 (by decide) ?_
            have hw := wp_s hf
            exact JJ _ _ _ _ hw hH (lv_sub hl [] rfl)
          · have hf := wp_f hc hf
            refine lv_bipush (v := (-4)) hx hb dX3_decrees_36 (by decide) ?_
            refine lv_goto (tgt := 43) hx hb dX3_decrees_38 (by decide) ?_
            have hw := wp_s hf
            exact JJ _ _ _ _ hw hH (lv_sub hl [] rfl)
    · have hf := wp_t hc hf
      refine lv_aload_n hx hb dX3_decrees_14 rfl (lv_at hl 0 rfl) ?_
      refine lv_bipush (v := (-2)) hx hb dX3_decrees_15 (by decide) ?_
      obtain ⟨x8, hcl, hf⟩ := wp_b hf
      refine k_Vi0 F hK hH hA hl.1 ⟨Nat.zero_le _, Nat.zero_le _⟩ [.int (-2)] [] (ctX3_refuse ad yn ym yk yl yt yd yu ye yv yo y0 y1 yc yh (-2) hcl) (cwV 1 hts gX3_decrees_X3_refuse rfl rfl rfl hdVX3_refuse ⟨Nat.le_of_ble_eq_true rfl, Nat.le_of_ble_eq_true rfl⟩) dX3_decrees_17 0 rfl rfl rfl rfl rfl (Nat.le_of_ble_eq_true rfl) rfl (fun H locs hH => ?_)
      have hH : Hs D A s.heap (wMn cI cJ cQ ad yn ym yk yl yt yd yu x8.2 yv yo y0 y1 yc yh) H locs := hH
      refine W.eq (g2 := F0 m 20 ls [.int x8.1]) rfl ?_
      have hrs := wp_s hf
      subst hrs
      exact RET H locs ls 20 dX3_decrees_20 rfl hH

def fX3_eyes (v1 : Int32) (yn : LandT) (ye : (Nat → Int32)) : Option (Int32 × LandT × (Nat → Int32)) :=
  Option.bind (fX3_isWithin v1 0 16) fun x1 =>
  if x1 = 0 then
    Option.bind (if (0 : Int32) ≤ v1 then
        some (-6)
      else
        some (-4)) fun (t2 : Int32) =>
    Option.bind (fX3_refuse t2 ye) fun x3 =>
    some (x3.1, yn, x3.2)
  else
    some (gE yn, (gH yn, gR yn, gK yn, gF yn, gP yn, gV yn, gQ yn, gN yn, gD yn, v1, gT yn), ye)

def rmX3_eyes : Room := { frames := 1, cells := 0, slots := 0, locals := 22 }
theorem mbX3_eyes_f10 : Cond.fieldLink RX3 10 (TX3 0).1 (TX3 0).2.1 (TX3 0).2.2.1 ∈ wsX3_eyes := by decide +kernel
theorem inX3_eyes_X3 : ∀ w ∈ wsX30, w ∈ wsX3_eyes := by decide +kernel
theorem mbX3_eyes_f152 : Cond.fieldLink RX3 152 (TX0 9).1 (TX0 9).2.1 (TX0 9).2.2.1 ∈ wsX3_eyes := by decide +kernel
theorem inX3_eyes_X0 : ∀ w ∈ wsX00, w ∈ wsX3_eyes := by decide +kernel
theorem hdVX3_eyes : yX3_eyes.cls = RX3 ∧ yX3_eyes.cls ≠ "java/lang/invoke/MethodHandle" ∧ yX3_eyes.cls ≠ "java/lang/invoke/VarHandle" ∧ (parseMethodDescriptor yX3_eyes.desc).map (fun d => d.parameters.length) = some 1 := by decide +kernel
set_option maxHeartbeats 4000000 in
set_option maxRecDepth 100000 in
theorem ctX3_eyes {l : Launch} {D : va_G} {cI cJ cQ : ClassId} (ad : Nat → Nat) (yn : LandT) (ym : LandT) (yk : LandT) (yl : (Nat → Int32)) (yt : Int32) (yd : Int32) (yu : (Nat → Int32)) (ye : (Nat → Int32)) (yv : (Nat → Int32)) (yo : (Nat → Int64)) (y0 : (Nat → Int32)) (y1 : (Nat → Int32)) (yc : Int32) (yh : Int32) (v1 : Int32) {res : Int32 × LandT × (Nat → Int32)} (h : fX3_eyes v1 yn ye = some res) : CtI l D cI cJ cQ yX3_eyes wsX3_eyes rmX3_eyes [.ref (ad 0), .int v1] (wMn cI cJ cQ ad yn ym yk yl yt yd yu ye yv yo y0 y1 yc yh) res.1 (wMn cI cJ cQ ad res.2.1 ym yk yl yt yd yu res.2.2 yv yo y0 y1 yc yh) := by
  refine ctI_of .int (cc := cX3_eyes) (maxL := 3) (by decide) rfl (Nat.le_of_ble_eq_true rfl) ?_
  intro p e s m args below meth c A Q ls F hK hA RET hH hl
  obtain ⟨hx, hb, hml, hown, hts⟩ := id F
  have hl : lv_has ls 3 [(0, .ref (ad 0)), (1, .int v1)] := hl
  have hf : wpO (fX3_eyes v1 yn ye) (fun v => v = res) := ⟨_, h, rfl⟩
  obtain ⟨H, eH⟩ : ∃ H, H = s.heap := ⟨_, rfl⟩
  obtain ⟨locs, eL⟩ : ∃ locs : List Loc, locs = [] := ⟨_, rfl⟩
  have hH : Hs D A s.heap (wMn cI cJ cQ ad yn ym yk yl yt yd yu ye yv yo y0 y1 yc yh) H locs := by rw [eH, eL]; exact hH
  rw [← eL]
  suffices hgo : W p l e rmX3_eyes s m args below meth c H locs 0 0 Q (F0 m 0 ls []) by rw [eH] at hgo; exact hgo
  clear eH eL
  refine lv_iload_n hx hb dX3_eyes_0 rfl (lv_at hl 1 rfl) ?_
  refine lv_iconst (v := 0) hx hb dX3_eyes_1 (by decide) ?_
  refine lv_bipush (v := 16) hx hb dX3_eyes_2 (by decide) ?_
  obtain ⟨x1, hcl, hf⟩ := wp_b hf
  refine k_Si F hK hH hA hl.1 ⟨Nat.zero_le _, Nat.zero_le _⟩ [] [.int v1, .int 0, .int 16] [] (ctX3_isWithin v1 0 16 hcl) (va_cwS 3 hts gX3_eyes_X3_isWithin rfl rfl rfl hdSX3_isWithin ⟨Nat.le_of_ble_eq_true rfl, Nat.le_of_ble_eq_true rfl⟩) dX3_eyes_4 rfl rfl (Nat.le_of_ble_eq_true rfl) rfl rfl (by decide) (fun H locs hH => ?_)
  have hH : Hs D A s.heap (wMn cI cJ cQ ad yn ym yk yl yt yd yu ye yv yo y0 y1 yc yh) H locs := hH
  refine lv_if_ne (tgt := 26) hx hb dX3_eyes_7 (by decide) (fun hc => ?_) (fun hc => ?_)
  · have hf := wp_f hc hf
    refine lv_aload_n hx hb dX3_eyes_26 rfl (lv_at hl 0 rfl) ?_
    refine k_get (v := .ref (ad 1)) F hK hH 0 inX3_eyes_X3 0 mbX3_eyes_f10 dX3_eyes_27 rfl rfl (by decide) rfl ?_
    refine k_get (v := .int (gE yn)) F hK hH 1 inX3_eyes_X0 9 mbX3_eyes_f152 dX3_eyes_30 rfl rfl (by decide) rfl ?_
    refine lv_istore_n (lv' := [(2, .int (gE yn)), (0, .ref (ad 0)), (1, .int v1)]) hx hb dX3_eyes_33 rfl hl (by decide) rfl (fun ls hl => ?_)
    refine lv_aload_n hx hb dX3_eyes_34 rfl (lv_at hl 1 rfl) ?_
    refine k_get (v := .ref (ad 1)) F hK hH 0 inX3_eyes_X3 0 mbX3_eyes_f10 dX3_eyes_35 rfl rfl (by decide) rfl ?_
    refine lv_iload_n hx hb dX3_eyes_38 rfl (lv_at hl 2 rfl) ?_
    refine k_put (v := .int v1) F hK hH 1 inX3_eyes_X0 tyX0 tyX0_ok nmX0 9 mbX3_eyes_f152 dX3_eyes_39 rfl rfl (by decide) rfl rfl rfl (Nat.le_of_ble_eq_true rfl) (fun H locs hH => ?_)
    have hH : Hs D A s.heap (wMn cI cJ cQ ad (gH yn, gR yn, gK yn, gF yn, gP yn, gV yn, gQ yn, gN yn, gD yn, v1, gT yn) ym yk yl yt yd yu ye yv yo y0 y1 yc yh) H locs := hH
    refine lv_iload_n hx hb dX3_eyes_42 rfl (lv_at hl 0 rfl) ?_
    have hrs := wp_s hf
    subst hrs
    exact RET H locs ls 43 dX3_eyes_43 rfl hH
  · have hf := wp_t hc hf
    refine lv_aload_n hx hb dX3_eyes_10 rfl (lv_at hl 0 rfl) ?_
    refine lv_iload_n hx hb dX3_eyes_11 rfl (lv_at hl 1 rfl) ?_
    refine join_ (α := Int32) (fun Φ => ∀ (t2 : Int32) (H : Heap) (locs : List Loc) (ls : Array Slot), Φ t2 → Hs D A s.heap (wMn cI cJ cQ ad yn ym yk yl yt yd yu ye yv yo y0 y1 yc yh) H locs → lv_has ls 3 [] → W p l e rmX3_eyes s m args below meth c H locs 0 0 Q (F0 m 22 ls [.int t2, .ref (ad 0)])) (wp_bb hf) ?_ ?_
    · intro t2 H locs ls hf hH hl
      obtain ⟨x3, hcl, hf⟩ := wp_b hf
      refine k_Vi0 F hK hH hA hl.1 ⟨Nat.zero_le _, Nat.zero_le _⟩ [.int t2] [] (ctX3_refuse ad yn ym yk yl yt yd yu ye yv yo y0 y1 yc yh t2 hcl) (cwV 1 hts gX3_eyes_X3_refuse rfl rfl rfl hdVX3_refuse ⟨Nat.le_of_ble_eq_true rfl, Nat.le_of_ble_eq_true rfl⟩) dX3_eyes_22 0 rfl rfl rfl rfl rfl (Nat.le_of_ble_eq_true rfl) rfl (fun H locs hH => ?_)
      have hH : Hs D A s.heap (wMn cI cJ cQ ad yn ym yk yl yt yd yu x3.2 yv yo y0 y1 yc yh) H locs := hH
      refine W.eq (g2 := F0 m 25 ls [.int x3.1]) rfl ?_
      have hrs := wp_s hf
      subst hrs
      exact RET H locs ls 25 dX3_eyes_25 rfl hH
    · intro Φ JJ hf
      refine lv_if_ge (tgt := 20) hx hb dX3_eyes_12 (by decide) (fun hc => ?_) (fun hc => ?_)
      · have hf := wp_t hc hf
        refine lv_bipush (v := (-6)) hx hb dX3_eyes_20 (by decide) ?_
        have hw := wp_s hf
        exact JJ _ _ _ _ hw hH (lv_sub hl [] rfl)
      · have hf := wp_f hc hf
        refine lv_bipush (v := (-4)) hx hb dX3_eyes_15 (by decide) ?_
        refine lv_goto (tgt := 22) hx hb dX3_eyes_17 (by decide) ?_
        have hw := wp_s hf
        exact JJ _ _ _ _ hw hH (lv_sub hl [] rfl)

def fX3_turn (v1 : Int32) (v2 : Int32) (v3 : Int32) (yn : LandT) (ye : (Nat → Int32)) : Option (Int32 × LandT × (Nat → Int32)) :=
  Option.bind (fX0_hasThing v1 yn) fun x1 =>
  if x1 = 0 then
    Option.bind (fX3_refuse (-1) ye) fun x7 =>
    some (x7.1, yn, x7.2)
  else
    Option.bind (fX3_isKind v2) fun x2 =>
    if x2 = 0 then
      Option.bind (fX3_refuse (-2) ye) fun x6 =>
      some (x6.1, yn, x6.2)
    else
      Option.bind (fX3_isWithin v3 0 9) fun x3 =>
      if x3 = 0 then
        Option.bind (if (0 : Int32) ≤ v3 then
            some (-6)
          else
            some (-4)) fun (t4 : Int32) =>
        Option.bind (fX3_refuse t4 ye) fun x5 =>
        some (x5.1, yn, x5.2)
      else
        if ob v1 7 then none else
        if ob v1 7 then none else
        if ob v1 7 then none else
        if ob v1 7 then none else
        some ((10 * ((gK yn) (Int32.toNatClampNeg v1))) + ((gF yn) (Int32.toNatClampNeg v1)), (gH yn, gR yn, upd (gK yn) (Int32.toNatClampNeg v1) v2, upd (gF yn) (Int32.toNatClampNeg v1) v3, gP yn, gV yn, gQ yn, gN yn, gD yn, gE yn, gT yn), ye)

def rmX3_turn : Room := { frames := 2, cells := 0, slots := 0, locals := 43 }
theorem mbX3_turn_f10 : Cond.fieldLink RX3 10 (TX3 0).1 (TX3 0).2.1 (TX3 0).2.2.1 ∈ wsX3_turn := by decide +kernel
theorem inX3_turn_X3 : ∀ w ∈ wsX30, w ∈ wsX3_turn := by decide +kernel
theorem mbX3_turn_f92 : Cond.fieldLink RX3 92 (TX0 2).1 (TX0 2).2.1 (TX0 2).2.2.1 ∈ wsX3_turn := by decide +kernel
theorem inX3_turn_X0 : ∀ w ∈ wsX00, w ∈ wsX3_turn := by decide +kernel
theorem mbX3_turn_f95 : Cond.fieldLink RX3 95 (TX0 3).1 (TX0 3).2.1 (TX0 3).2.2.1 ∈ wsX3_turn := by decide +kernel
theorem hdVX3_turn : yX3_turn.cls = RX3 ∧ yX3_turn.cls ≠ "java/lang/invoke/MethodHandle" ∧ yX3_turn.cls ≠ "java/lang/invoke/VarHandle" ∧ (parseMethodDescriptor yX3_turn.desc).map (fun d => d.parameters.length) = some 3 := by decide +kernel
set_option maxHeartbeats 4000000 in
set_option maxRecDepth 100000 in
theorem ctX3_turn {l : Launch} {D : va_G} {cI cJ cQ : ClassId} (ad : Nat → Nat) (yn : LandT) (ym : LandT) (yk : LandT) (yl : (Nat → Int32)) (yt : Int32) (yd : Int32) (yu : (Nat → Int32)) (ye : (Nat → Int32)) (yv : (Nat → Int32)) (yo : (Nat → Int64)) (y0 : (Nat → Int32)) (y1 : (Nat → Int32)) (yc : Int32) (yh : Int32) (v1 : Int32) (v2 : Int32) (v3 : Int32) {res : Int32 × LandT × (Nat → Int32)} (h : fX3_turn v1 v2 v3 yn ye = some res) : CtI l D cI cJ cQ yX3_turn wsX3_turn rmX3_turn [.ref (ad 0), .int v1, .int v2, .int v3] (wMn cI cJ cQ ad yn ym yk yl yt yd yu ye yv yo y0 y1 yc yh) res.1 (wMn cI cJ cQ ad res.2.1 ym yk yl yt yd yu res.2.2 yv yo y0 y1 yc yh) := by
  refine ctI_of .int (cc := cX3_turn) (maxL := 5) (by decide) rfl (Nat.le_of_ble_eq_true rfl) ?_
  intro p e s m args below meth c A Q ls F hK hA RET hH hl
  obtain ⟨hx, hb, hml, hown, hts⟩ := id F
  have hl : lv_has ls 5 [(0, .ref (ad 0)), (1, .int v1), (2, .int v2), (3, .int v3)] := hl
  have hf : wpO (fX3_turn v1 v2 v3 yn ye) (fun v => v = res) := ⟨_, h, rfl⟩
  obtain ⟨H, eH⟩ : ∃ H, H = s.heap := ⟨_, rfl⟩
  obtain ⟨locs, eL⟩ : ∃ locs : List Loc, locs = [] := ⟨_, rfl⟩
  have hH : Hs D A s.heap (wMn cI cJ cQ ad yn ym yk yl yt yd yu ye yv yo y0 y1 yc yh) H locs := by rw [eH, eL]; exact hH
  rw [← eL]
  suffices hgo : W p l e rmX3_turn s m args below meth c H locs 0 0 Q (F0 m 0 ls []) by rw [eH] at hgo; exact hgo
  clear eH eL
  refine lv_aload_n hx hb dX3_turn_0 rfl (lv_at hl 0 rfl) ?_
  refine k_get (v := .ref (ad 1)) F hK hH 0 inX3_turn_X3 0 mbX3_turn_f10 dX3_turn_1 rfl rfl (by decide) rfl ?_
  refine lv_iload_n hx hb dX3_turn_4 rfl (lv_at hl 1 rfl) ?_
  obtain ⟨x1, hcl, hf⟩ := wp_b hf
  refine k_Vi F hK hH hA hl.1 ⟨Nat.zero_le _, Nat.zero_le _⟩ [1, 2, 3, 4, 5, 6, 7, 8] [.int v1] [] (ctX0_hasThing (fun k => ad (1 + k)) yn v1 hcl) (cwV 1 hts gX3_turn_X0_hasThing rfl rfl rfl hdVX0_hasThing ⟨Nat.le_of_ble_eq_true rfl, Nat.le_of_ble_eq_true rfl⟩) dX3_turn_5 1 rfl rfl rfl rfl rfl (Nat.le_of_ble_eq_true rfl) rfl rfl (by decide) (fun H locs hH => ?_)
  have hH : Hs D A s.heap (wMn cI cJ cQ ad yn ym yk yl yt yd yu ye yv yo y0 y1 yc yh) H locs := hH
  refine lv_if_ne (tgt := 17) hx hb dX3_turn_8 (by decide) (fun hc => ?_) (fun hc => ?_)
  · have hf := wp_f hc hf
    refine lv_iload_n hx hb dX3_turn_17 rfl (lv_at hl 2 rfl) ?_
    obtain ⟨x2, hcl, hf⟩ := wp_b hf
    refine k_Si F hK hH hA hl.1 ⟨Nat.zero_le _, Nat.zero_le _⟩ [] [.int v2] [] (ctX3_isKind v2 hcl) (va_cwS 1 hts gX3_turn_X3_isKind rfl rfl rfl hdSX3_isKind ⟨Nat.le_of_ble_eq_true rfl, Nat.le_of_ble_eq_true rfl⟩) dX3_turn_18 rfl rfl (Nat.le_of_ble_eq_true rfl) rfl rfl (by decide) (fun H locs hH => ?_)
    have hH : Hs D A s.heap (wMn cI cJ cQ ad yn ym yk yl yt yd yu ye yv yo y0 y1 yc yh) H locs := hH
    refine lv_if_ne (tgt := 31) hx hb dX3_turn_21 (by decide) (fun hc => ?_) (fun hc => ?_)
    · have hf := wp_f hc hf
      refine lv_iload_n hx hb dX3_turn_31 rfl (lv_at hl 3 rfl) ?_
      refine lv_iconst (v := 0) hx hb dX3_turn_32 (by decide) ?_
      refine lv_bipush (v := 9) hx hb dX3_turn_33 (by decide) ?_
      obtain ⟨x3, hcl, hf⟩ := wp_b hf
      refine k_Si F hK hH hA hl.1 ⟨Nat.zero_le _, Nat.zero_le _⟩ [] [.int v3, .int 0, .int 9] [] (ctX3_isWithin v3 0 9 hcl) (va_cwS 3 hts gX3_turn_X3_isWithin rfl rfl rfl hdSX3_isWithin ⟨Nat.le_of_ble_eq_true rfl, Nat.le_of_ble_eq_true rfl⟩) dX3_turn_35 rfl rfl (Nat.le_of_ble_eq_true rfl) rfl rfl (by decide) (fun H locs hH => ?_)
      have hH : Hs D A s.heap (wMn cI cJ cQ ad yn ym yk yl yt yd yu ye yv yo y0 y1 yc yh) H locs := hH
      refine lv_if_ne (tgt := 57) hx hb dX3_turn_38 (by decide) (fun hc => ?_) (fun hc => ?_)
      · have hf := wp_f hc hf
        refine lv_bipush (v := 10) hx hb dX3_turn_57 (by decide) ?_
        refine lv_aload_n hx hb dX3_turn_59 rfl (lv_at hl 0 rfl) ?_
        refine k_get (v := .ref (ad 1)) F hK hH 0 inX3_turn_X3 0 mbX3_turn_f10 dX3_turn_60 rfl rfl (by decide) rfl ?_
        refine k_get (v := .ref (ad 4)) F hK hH 1 inX3_turn_X0 2 mbX3_turn_f92 dX3_turn_63 rfl rfl (by decide) rfl ?_
        refine lv_iload_n hx hb dX3_turn_66 rfl (lv_at hl 1 rfl) ?_
        obtain ⟨hi, hf⟩ := wp_n hf
        refine k_iald (f := gK yn) (n := 7) F hK hH 4 dX3_turn_67 hi rfl ?_
        refine lv_imul hx hb dX3_turn_68 ?_
        refine lv_aload_n hx hb dX3_turn_69 rfl (lv_at hl 0 rfl) ?_
        refine k_get (v := .ref (ad 1)) F hK hH 0 inX3_turn_X3 0 mbX3_turn_f10 dX3_turn_70 rfl rfl (by decide) rfl ?_
        refine k_get (v := .ref (ad 5)) F hK hH 1 inX3_turn_X0 3 mbX3_turn_f95 dX3_turn_73 rfl rfl (by decide) rfl ?_
        refine lv_iload_n hx hb dX3_turn_76 rfl (lv_at hl 1 rfl) ?_
        obtain ⟨hi, hf⟩ := wp_n hf
        refine k_iald (f := gF yn) (n := 7) F hK hH 5 dX3_turn_77 hi rfl ?_
        refine lv_iadd hx hb dX3_turn_78 ?_
        refine lv_istore (lv' := [(4, .int ((10 * ((gK yn) (Int32.toNatClampNeg v1))) + ((gF yn) (Int32.toNatClampNeg v1)))), (0, .ref (ad 0)), (1, .int v1), (2, .int v2), (3, .int v3)]) hx hb dX3_turn_79 hl (by decide) rfl (fun ls hl => ?_)
        refine lv_aload_n hx hb dX3_turn_81 rfl (lv_at hl 1 rfl) ?_
        refine k_get (v := .ref (ad 1)) F hK hH 0 inX3_turn_X3 0 mbX3_turn_f10 dX3_turn_82 rfl rfl (by decide) rfl ?_
        refine k_get (v := .ref (ad 4)) F hK hH 1 inX3_turn_X0 2 mbX3_turn_f92 dX3_turn_85 rfl rfl (by decide) rfl ?_
        refine lv_iload_n hx hb dX3_turn_88 rfl (lv_at hl 2 rfl) ?_
        refine lv_iload_n hx hb dX3_turn_89 rfl (lv_at hl 3 rfl) ?_
        obtain ⟨hi, hf⟩ := wp_n hf
        refine k_iast (f := gK yn) (n := 7) F hK hH 4 dX3_turn_90 hi rfl (fun H locs hH => ?_)
        have hH : Hs D A s.heap (wMn cI cJ cQ ad (gH yn, gR yn, upd (gK yn) (Int32.toNatClampNeg v1) v2, gF yn, gP yn, gV yn, gQ yn, gN yn, gD yn, gE yn, gT yn) ym yk yl yt yd yu ye yv yo y0 y1 yc yh) H locs := hH
        refine lv_aload_n hx hb dX3_turn_91 rfl (lv_at hl 1 rfl) ?_
        refine k_get (v := .ref (ad 1)) F hK hH 0 inX3_turn_X3 0 mbX3_turn_f10 dX3_turn_92 rfl rfl (by decide) rfl ?_
        refine k_get (v := .ref (ad 5)) F hK hH 1 inX3_turn_X0 3 mbX3_turn_f95 dX3_turn_95 rfl rfl (by decide) rfl ?_
        refine lv_iload_n hx hb dX3_turn_98 rfl (lv_at hl 2 rfl) ?_
        refine lv_iload_n hx hb dX3_turn_99 rfl (lv_at hl 4 rfl) ?_
        obtain ⟨hi, hf⟩ := wp_n hf
        refine k_iast (f := gF yn) (n := 7) F hK hH 5 dX3_turn_100 hi rfl (fun H locs hH => ?_)
        have hH : Hs D A s.heap (wMn cI cJ cQ ad (gH yn, gR yn, upd (gK yn) (Int32.toNatClampNeg v1) v2, upd (gF yn) (Int32.toNatClampNeg v1) v3, gP yn, gV yn, gQ yn, gN yn, gD yn, gE yn, gT yn) ym yk yl yt yd yu ye yv yo y0 y1 yc yh) H locs := hH
        refine lv_iload hx hb dX3_turn_101 (lv_at hl 0 rfl) ?_
        have hrs := wp_s hf
        subst hrs
        exact RET H locs ls 103 dX3_turn_103 rfl hH
      · have hf := wp_t hc hf
        refine lv_aload_n hx hb dX3_turn_41 rfl (lv_at hl 0 rfl) ?_
        refine lv_iload_n hx hb dX3_turn_42 rfl (lv_at hl 3 rfl) ?_
        refine join_ (α := Int32) (fun Φ => ∀ (t4 : Int32) (H : Heap) (locs : List Loc) (ls : Array Slot), Φ t4 → Hs D A s.heap (wMn cI cJ cQ ad yn ym yk yl yt yd yu ye yv yo y0 y1 yc yh) H locs → lv_has ls 5 [] → W p l e rmX3_turn s m args below meth c H locs 0 0 Q (F0 m 53 ls [.int t4, .ref (ad 0)])) (wp_bb hf) ?_ ?_
        · intro t4 H locs ls hf hH hl
          obtain ⟨x5, hcl, hf⟩ := wp_b hf
          refine k_Vi0 F hK hH hA hl.1 ⟨Nat.zero_le _, Nat.zero_le _⟩ [.int t4] [] (ctX3_refuse ad yn ym yk yl yt yd yu ye yv yo y0 y1 yc yh t4 hcl) (cwV 1 hts gX3_turn_X3_refuse rfl rfl rfl hdVX3_refuse ⟨Nat.le_of_ble_eq_true rfl, Nat.le_of_ble_eq_true rfl⟩) dX3_turn_53 0 rfl rfl rfl rfl rfl (Nat.le_of_ble_eq_true rfl) rfl (fun H locs hH => ?_)
          have hH : Hs D A s.heap (wMn cI cJ cQ ad yn ym yk yl yt yd yu x5.2 yv yo y0 y1 yc yh) H locs := hH
          refine W.eq (g2 := F0 m 56 ls [.int x5.1]) rfl ?_
          have hrs := wp_s hf
          subst hrs
          exact RET H locs ls 56 dX3_turn_56 rfl hH
        · intro Φ JJ hf
          refine lv_if_ge (tgt := 51) hx hb dX3_turn_43 (by decide) (fun hc => ?_) (fun hc => ?_)
          · have hf := wp_t hc hf
            refine lv_bipush (v := (-6)) hx hb dX3_turn_51 (by decide) ?_
            have hw := wp_s hf
            exact JJ _ _ _ _ hw hH (lv_sub hl [] rfl)
          · have hf := wp_f hc hf
            refine lv_bipush (v := (-4)) hx hb dX3_turn_46 (by decide) ?_
            refine lv_goto (tgt := 53) hx hb dX3_turn_48 (by decide) ?_
            have hw := wp_s hf
            exact JJ _ _ _ _ hw hH (lv_sub hl [] rfl)
    · have hf := wp_t hc hf
      refine lv_aload_n hx hb dX3_turn_24 rfl (lv_at hl 0 rfl) ?_
      refine lv_bipush (v := (-2)) hx hb dX3_turn_25 (by decide) ?_
      obtain ⟨x6, hcl, hf⟩ := wp_b hf
      refine k_Vi0 F hK hH hA hl.1 ⟨Nat.zero_le _, Nat.zero_le _⟩ [.int (-2)] [] (ctX3_refuse ad yn ym yk yl yt yd yu ye yv yo y0 y1 yc yh (-2) hcl) (cwV 1 hts gX3_turn_X3_refuse rfl rfl rfl hdVX3_refuse ⟨Nat.le_of_ble_eq_true rfl, Nat.le_of_ble_eq_true rfl⟩) dX3_turn_27 0 rfl rfl rfl rfl rfl (Nat.le_of_ble_eq_true rfl) rfl (fun H locs hH => ?_)
      have hH : Hs D A s.heap (wMn cI cJ cQ ad yn ym yk yl yt yd yu x6.2 yv yo y0 y1 yc yh) H locs := hH
      refine W.eq (g2 := F0 m 30 ls [.int x6.1]) rfl ?_
      have hrs := wp_s hf
      subst hrs
      exact RET H locs ls 30 dX3_turn_30 rfl hH
  · have hf := wp_t hc hf
    refine lv_aload_n hx hb dX3_turn_11 rfl (lv_at hl 0 rfl) ?_
    refine lv_iconst (v := (-1)) hx hb dX3_turn_12 (by decide) ?_
    obtain ⟨x7, hcl, hf⟩ := wp_b hf
    refine k_Vi0 F hK hH hA hl.1 ⟨Nat.zero_le _, Nat.zero_le _⟩ [.int (-1)] [] (ctX3_refuse ad yn ym yk yl yt yd yu ye yv yo y0 y1 yc yh (-1) hcl) (cwV 1 hts gX3_turn_X3_refuse rfl rfl rfl hdVX3_refuse ⟨Nat.le_of_ble_eq_true rfl, Nat.le_of_ble_eq_true rfl⟩) dX3_turn_13 0 rfl rfl rfl rfl rfl (Nat.le_of_ble_eq_true rfl) rfl (fun H locs hH => ?_)
    have hH : Hs D A s.heap (wMn cI cJ cQ ad yn ym yk yl yt yd yu x7.2 yv yo y0 y1 yc yh) H locs := hH
    refine W.eq (g2 := F0 m 16 ls [.int x7.1]) rfl ?_
    have hrs := wp_s hf
    subst hrs
    exact RET H locs ls 16 dX3_turn_16 rfl hH

def fX3_hours (v1 : Int32) (yn : LandT) (ye : (Nat → Int32)) : Option (Int32 × LandT × (Nat → Int32)) :=
  Option.bind (fX3_isWithin v1 1 (imin 60 (999 - (gT yn)))) fun x1 =>
  if x1 = 0 then
    Option.bind (if (1 : Int32) ≤ v1 then
        some (-6)
      else
        some (-4)) fun (t3 : Int32) =>
    Option.bind (fX3_refuse t3 ye) fun x4 =>
    some (x4.1, yn, x4.2)
  else
    Option.bind (fX0_passHours v1 yn) fun x2 =>
    some (gT x2, x2, ye)

def rmX3_hours : Room := { frames := 3, cells := 0, slots := 0, locals := 66 }
theorem mbX3_hours_f10 : Cond.fieldLink RX3 10 (TX3 0).1 (TX3 0).2.1 (TX3 0).2.2.1 ∈ wsX3_hours := by decide +kernel
theorem inX3_hours_X3 : ∀ w ∈ wsX30, w ∈ wsX3_hours := by decide +kernel
theorem mbX3_hours_f107 : Cond.fieldLink RX3 107 (TX0 10).1 (TX0 10).2.1 (TX0 10).2.2.1 ∈ wsX3_hours := by decide +kernel
theorem inX3_hours_X0 : ∀ w ∈ wsX00, w ∈ wsX3_hours := by decide +kernel
theorem mbX3_hours_m155 : Cond.methodLink RX3 155 Lib.Math.min.name ∈ wsX3_hours := by decide +kernel
theorem mbX3_hours_min1 : Cond.static Lib.Math.min.name ∈ wsX3_hours := by decide +kernel
theorem mbX3_hours_min2 : Cond.initialized "java/lang/Math" ∈ wsX3_hours := by decide +kernel
theorem mbX3_hours_min3 : Cond.code Lib.Math.min.name Lib.Math.min.code 2 (some .int) ∈ wsX3_hours := by decide +kernel
theorem hdVX3_hours : yX3_hours.cls = RX3 ∧ yX3_hours.cls ≠ "java/lang/invoke/MethodHandle" ∧ yX3_hours.cls ≠ "java/lang/invoke/VarHandle" ∧ (parseMethodDescriptor yX3_hours.desc).map (fun d => d.parameters.length) = some 1 := by decide +kernel
set_option maxHeartbeats 4000000 in
set_option maxRecDepth 100000 in
theorem ctX3_hours {l : Launch} {D : va_G} {cI cJ cQ : ClassId} (ad : Nat → Nat) (yn : LandT) (ym : LandT) (yk : LandT) (yl : (Nat → Int32)) (yt : Int32) (yd : Int32) (yu : (Nat → Int32)) (ye : (Nat → Int32)) (yv : (Nat → Int32)) (yo : (Nat → Int64)) (y0 : (Nat → Int32)) (y1 : (Nat → Int32)) (yc : Int32) (yh : Int32) (v1 : Int32) {res : Int32 × LandT × (Nat → Int32)} (h : fX3_hours v1 yn ye = some res) : CtI l D cI cJ cQ yX3_hours wsX3_hours rmX3_hours [.ref (ad 0), .int v1] (wMn cI cJ cQ ad yn ym yk yl yt yd yu ye yv yo y0 y1 yc yh) res.1 (wMn cI cJ cQ ad res.2.1 ym yk yl yt yd yu res.2.2 yv yo y0 y1 yc yh) := by
  refine ctI_of .int (cc := cX3_hours) (maxL := 2) (by decide) rfl (Nat.le_of_ble_eq_true rfl) ?_
  intro p e s m args below meth c A Q ls F hK hA RET hH hl
  obtain ⟨hx, hb, hml, hown, hts⟩ := id F
  have hl : lv_has ls 2 [(0, .ref (ad 0)), (1, .int v1)] := hl
  have hf : wpO (fX3_hours v1 yn ye) (fun v => v = res) := ⟨_, h, rfl⟩
  obtain ⟨H, eH⟩ : ∃ H, H = s.heap := ⟨_, rfl⟩
  obtain ⟨locs, eL⟩ : ∃ locs : List Loc, locs = [] := ⟨_, rfl⟩
  have hH : Hs D A s.heap (wMn cI cJ cQ ad yn ym yk yl yt yd yu ye yv yo y0 y1 yc yh) H locs := by rw [eH, eL]; exact hH
  rw [← eL]
  suffices hgo : W p l e rmX3_hours s m args below meth c H locs 0 0 Q (F0 m 0 ls []) by rw [eH] at hgo; exact hgo
  clear eH eL
  refine lv_iload_n hx hb dX3_hours_0 rfl (lv_at hl 1 rfl) ?_
  refine lv_iconst (v := 1) hx hb dX3_hours_1 (by decide) ?_
  refine lv_bipush (v := 60) hx hb dX3_hours_2 (by decide) ?_
  refine lv_sipush (v := 999) hx hb dX3_hours_4 (by decide) ?_
  refine lv_aload_n hx hb dX3_hours_7 rfl (lv_at hl 0 rfl) ?_
  refine k_get (v := .ref (ad 1)) F hK hH 0 inX3_hours_X3 0 mbX3_hours_f10 dX3_hours_8 rfl rfl (by decide) rfl ?_
  refine k_get (v := .int (gT yn)) F hK hH 1 inX3_hours_X0 10 mbX3_hours_f107 dX3_hours_11 rfl rfl (by decide) rfl ?_
  refine lv_isub hx hb dX3_hours_14 ?_
  refine k_min F hl.1 mbX3_hours_m155 mbX3_hours_min1 mbX3_hours_min2 mbX3_hours_min3 (Nat.le_of_ble_eq_true rfl) (Nat.le_of_ble_eq_true rfl) ⟨Nat.zero_le _, Nat.zero_le _⟩ dX3_hours_15 ?_
  refine W.eq (g2 := F0 m 18 ls [.int (imin 60 (999 - (gT yn))), .int 1, .int v1]) rfl ?_
  obtain ⟨x1, hcl, hf⟩ := wp_b hf
  refine k_Si F hK hH hA hl.1 ⟨Nat.zero_le _, Nat.zero_le _⟩ [] [.int v1, .int 1, .int (imin 60 (999 - (gT yn)))] [] (ctX3_isWithin v1 1 (imin 60 (999 - (gT yn))) hcl) (va_cwS 3 hts gX3_hours_X3_isWithin rfl rfl rfl hdSX3_isWithin ⟨Nat.le_of_ble_eq_true rfl, Nat.le_of_ble_eq_true rfl⟩) dX3_hours_18 rfl rfl (Nat.le_of_ble_eq_true rfl) rfl rfl (by decide) (fun H locs hH => ?_)
  have hH : Hs D A s.heap (wMn cI cJ cQ ad yn ym yk yl yt yd yu ye yv yo y0 y1 yc yh) H locs := hH
  refine lv_if_ne (tgt := 41) hx hb dX3_hours_21 (by decide) (fun hc => ?_) (fun hc => ?_)
  · have hf := wp_f hc hf
    refine lv_aload_n hx hb dX3_hours_41 rfl (lv_at hl 0 rfl) ?_
    refine k_get (v := .ref (ad 1)) F hK hH 0 inX3_hours_X3 0 mbX3_hours_f10 dX3_hours_42 rfl rfl (by decide) rfl ?_
    refine lv_iload_n hx hb dX3_hours_45 rfl (lv_at hl 1 rfl) ?_
    obtain ⟨x2, hcl, hf⟩ := wp_b hf
    refine k_Vv F hK hH hA hl.1 ⟨Nat.zero_le _, Nat.zero_le _⟩ [1, 2, 3, 4, 5, 6, 7, 8] [.int v1] [] (ctX0_passHours (fun k => ad (1 + k)) yn v1 hcl) (cwV 1 hts gX3_hours_X0_passHours rfl rfl rfl hdVX0_passHours ⟨Nat.le_of_ble_eq_true rfl, Nat.le_of_ble_eq_true rfl⟩) dX3_hours_46 1 rfl rfl rfl rfl rfl (Nat.le_of_ble_eq_true rfl) rfl rfl (by decide) (fun H locs hH => ?_)
    have hH : Hs D A s.heap (wMn cI cJ cQ ad x2 ym yk yl yt yd yu ye yv yo y0 y1 yc yh) H locs := hH
    refine lv_aload_n hx hb dX3_hours_49 rfl (lv_at hl 0 rfl) ?_
    refine k_get (v := .ref (ad 1)) F hK hH 0 inX3_hours_X3 0 mbX3_hours_f10 dX3_hours_50 rfl rfl (by decide) rfl ?_
    refine k_get (v := .int (gT x2)) F hK hH 1 inX3_hours_X0 10 mbX3_hours_f107 dX3_hours_53 rfl rfl (by decide) rfl ?_
    have hrs := wp_s hf
    subst hrs
    exact RET H locs ls 56 dX3_hours_56 rfl hH
  · have hf := wp_t hc hf
    refine lv_aload_n hx hb dX3_hours_24 rfl (lv_at hl 0 rfl) ?_
    refine lv_iload_n hx hb dX3_hours_25 rfl (lv_at hl 1 rfl) ?_
    refine lv_iconst (v := 1) hx hb dX3_hours_26 (by decide) ?_
    refine join_ (α := Int32) (fun Φ => ∀ (t3 : Int32) (H : Heap) (locs : List Loc) (ls : Array Slot), Φ t3 → Hs D A s.heap (wMn cI cJ cQ ad yn ym yk yl yt yd yu ye yv yo y0 y1 yc yh) H locs → lv_has ls 2 [] → W p l e rmX3_hours s m args below meth c H locs 0 0 Q (F0 m 37 ls [.int t3, .ref (ad 0)])) (wp_bb hf) ?_ ?_
    · intro t3 H locs ls hf hH hl
      obtain ⟨x4, hcl, hf⟩ := wp_b hf
      refine k_Vi0 F hK hH hA hl.1 ⟨Nat.zero_le _, Nat.zero_le _⟩ [.int t3] [] (ctX3_refuse ad yn ym yk yl yt yd yu ye yv yo y0 y1 yc yh t3 hcl) (cwV 1 hts gX3_hours_X3_refuse rfl rfl rfl hdVX3_refuse ⟨Nat.le_of_ble_eq_true rfl, Nat.le_of_ble_eq_true rfl⟩) dX3_hours_37 0 rfl rfl rfl rfl rfl (Nat.le_of_ble_eq_true rfl) rfl (fun H locs hH => ?_)
      have hH : Hs D A s.heap (wMn cI cJ cQ ad yn ym yk yl yt yd yu x4.2 yv yo y0 y1 yc yh) H locs := hH
      refine W.eq (g2 := F0 m 40 ls [.int x4.1]) rfl ?_
      have hrs := wp_s hf
      subst hrs
      exact RET H locs ls 40 dX3_hours_40 rfl hH
    · intro Φ JJ hf
      refine lv_icmp_ge (tgt := 35) hx hb dX3_hours_27 (by decide) (fun hc => ?_) (fun hc => ?_)
      · have hf := wp_t hc hf
        refine lv_bipush (v := (-6)) hx hb dX3_hours_35 (by decide) ?_
        have hw := wp_s hf
        exact JJ _ _ _ _ hw hH (lv_sub hl [] rfl)
      · have hf := wp_f hc hf
        refine lv_bipush (v := (-4)) hx hb dX3_hours_30 (by decide) ?_
        refine lv_goto (tgt := 37) hx hb dX3_hours_32 (by decide) ?_
        have hw := wp_s hf
        exact JJ _ _ _ _ hw hH (lv_sub hl [] rfl)

def fX3_isBranch (v0 : Int32) : Option (Int32) :=
  Option.bind (fX3_isWithin v0 0 9) fun x1 =>
  (bo x1).bind fun z2 =>
  some z2

def rmX3_isBranch : Room := { frames := 1, cells := 0, slots := 0, locals := 22 }
theorem hdSX3_isBranch : yX3_isBranch.cls ≠ "java/lang/invoke/MethodHandle" ∧ yX3_isBranch.cls ≠ "java/lang/invoke/VarHandle" ∧ (parseMethodDescriptor yX3_isBranch.desc).map (fun d => d.parameters.length) = some 1 := by decide +kernel
set_option maxHeartbeats 4000000 in
set_option maxRecDepth 100000 in
theorem ctX3_isBranch {l : Launch} {D : va_G} {cI cJ cQ : ClassId}   (v0 : Int32) {res : Int32} (h : fX3_isBranch v0 = some res) : CtI l D cI cJ cQ yX3_isBranch wsX3_isBranch rmX3_isBranch [.int v0] ([]) res ([]) := by
  refine ctI_of .boolean (cc := cX3_isBranch) (maxL := 1) (by decide) rfl (Nat.le_of_ble_eq_true rfl) ?_
  intro p e s m args below meth c A Q ls F hK hA RET hH hl
  obtain ⟨hx, hb, hml, hown, hts⟩ := id F
  have hl : lv_has ls 1 [(0, .int v0)] := hl
  have hf : wpO (fX3_isBranch v0) (fun v => v = res) := ⟨_, h, rfl⟩
  obtain ⟨H, eH⟩ : ∃ H, H = s.heap := ⟨_, rfl⟩
  obtain ⟨locs, eL⟩ : ∃ locs : List Loc, locs = [] := ⟨_, rfl⟩
  have hH : Hs D A s.heap ([]) H locs := by rw [eH, eL]; exact hH
  rw [← eL]
  suffices hgo : W p l e rmX3_isBranch s m args below meth c H locs 0 0 Q (F0 m 0 ls []) by rw [eH] at hgo; exact hgo
  clear eH eL
  refine lv_iload_n hx hb dX3_isBranch_0 rfl (lv_at hl 0 rfl) ?_
  refine lv_iconst (v := 0) hx hb dX3_isBranch_1 (by decide) ?_
  refine lv_bipush (v := 9) hx hb dX3_isBranch_2 (by decide) ?_
  obtain ⟨x1, hcl, hf⟩ := wp_b hf
  refine k_Si F hK hH hA hl.1 ⟨Nat.zero_le _, Nat.zero_le _⟩ [] [.int v0, .int 0, .int 9] [] (ctX3_isWithin v0 0 9 hcl) (va_cwS 3 hts gX3_isBranch_X3_isWithin rfl rfl rfl hdSX3_isWithin ⟨Nat.le_of_ble_eq_true rfl, Nat.le_of_ble_eq_true rfl⟩) dX3_isBranch_4 rfl rfl (Nat.le_of_ble_eq_true rfl) rfl rfl (by decide) (fun H locs hH => ?_)
  have hH : Hs D A s.heap ([]) H locs := hH
  obtain ⟨z2, hbo, hf⟩ := wp_b hf
  obtain ⟨hbe, hnb⟩ := bo_narrow hbo
  rw [hbe] at hf
  have hrs := wp_s hf
  subst hrs
  exact RET H locs ls 7 dX3_isBranch_7 hnb hH

