def fX3_refuse (v1 : Int32) (ye : (Nat → Int32)) : Option (Int32 × (Nat → Int32)) :=
  if ob (-v1) 7 then none else
  if ob (-v1) 7 then none else
  some (v1, upd ye (Int32.toNatClampNeg (-v1)) ((ye (Int32.toNatClampNeg (-v1))) + 1))

def rmX3_refuse : Room := { frames := 0, cells := 0, slots := 0, locals := 0 }
theorem mbX3_refuse_f40 : Cond.fieldLink RX3 40 (TX3 6).1 (TX3 6).2.1 (TX3 6).2.2.1 ∈ wsX3_refuse := by decide +kernel
theorem inX3_refuse_X3 : ∀ w ∈ wsX30, w ∈ wsX3_refuse := by decide +kernel
theorem hdVX3_refuse : yX3_refuse.cls = RX3 ∧ yX3_refuse.cls ≠ "java/lang/invoke/MethodHandle" ∧ yX3_refuse.cls ≠ "java/lang/invoke/VarHandle" ∧ (parseMethodDescriptor yX3_refuse.desc).map (fun d => d.parameters.length) = some 1 := by decide +kernel
set_option maxHeartbeats 4000000 in
set_option maxRecDepth 100000 in
theorem ctX3_refuse {l : Launch} {D : va_G} {cI cJ cQ : ClassId} (ad : Nat → Nat) (yn : LandT) (ym : LandT) (yk : LandT) (yl : (Nat → Int32)) (yt : Int32) (yd : Int32) (yu : (Nat → Int32)) (ye : (Nat → Int32)) (yv : (Nat → Int32)) (yo : (Nat → Int64)) (y0 : (Nat → Int32)) (y1 : (Nat → Int32)) (yc : Int32) (yh : Int32) (v1 : Int32) {res : Int32 × (Nat → Int32)} (h : fX3_refuse v1 ye = some res) : CtI l D cI cJ cQ yX3_refuse wsX3_refuse rmX3_refuse [.ref (ad 0), .int v1] (wMn cI cJ cQ ad yn ym yk yl yt yd yu ye yv yo y0 y1 yc yh) res.1 (wMn cI cJ cQ ad yn ym yk yl yt yd yu res.2 yv yo y0 y1 yc yh) := by
  refine ctI_of .int (cc := cX3_refuse) (maxL := 2) (by decide) rfl (Nat.le_of_ble_eq_true rfl) ?_
  intro p e s m args below meth c A Q ls F hK hA RET hH hl
  obtain ⟨hx, hb, hml, hown, hts⟩ := id F
  have hl : lv_has ls 2 [(0, .ref (ad 0)), (1, .int v1)] := hl
  have hf : wpO (fX3_refuse v1 ye) (fun v => v = res) := ⟨_, h, rfl⟩
  obtain ⟨H, eH⟩ : ∃ H, H = s.heap := ⟨_, rfl⟩
  obtain ⟨locs, eL⟩ : ∃ locs : List Loc, locs = [] := ⟨_, rfl⟩
  have hH : Hs D A s.heap (wMn cI cJ cQ ad yn ym yk yl yt yd yu ye yv yo y0 y1 yc yh) H locs := by rw [eH, eL]; exact hH
  rw [← eL]
  suffices hgo : W p l e rmX3_refuse s m args below meth c H locs 0 0 Q (F0 m 0 ls []) by rw [eH] at hgo; exact hgo
  clear eH eL
  refine lv_aload_n hx hb dX3_refuse_0 rfl (lv_at hl 0 rfl) ?_
  refine k_get (v := .ref (ad 29)) F hK hH 0 inX3_refuse_X3 6 mbX3_refuse_f40 dX3_refuse_1 rfl rfl (by decide) rfl ?_
  refine lv_iload_n hx hb dX3_refuse_4 rfl (lv_at hl 1 rfl) ?_
  refine lv_ineg hx hb dX3_refuse_5 ?_
  refine lv_dup2_11 hx hb dX3_refuse_6 rfl rfl ?_
  obtain ⟨hi, hf⟩ := wp_n hf
  refine k_iald (f := ye) (n := 7) F hK hH 29 dX3_refuse_7 hi rfl ?_
  refine lv_iconst (v := 1) hx hb dX3_refuse_8 (by decide) ?_
  refine lv_iadd hx hb dX3_refuse_9 ?_
  obtain ⟨hi, hf⟩ := wp_n hf
  refine k_iast (f := ye) (n := 7) F hK hH 29 dX3_refuse_10 hi rfl (fun H locs hH => ?_)
  have hH : Hs D A s.heap (wMn cI cJ cQ ad yn ym yk yl yt yd yu (upd ye (Int32.toNatClampNeg (-v1)) ((ye (Int32.toNatClampNeg (-v1))) + 1)) yv yo y0 y1 yc yh) H locs := hH
  refine lv_iload_n hx hb dX3_refuse_11 rfl (lv_at hl 1 rfl) ?_
  have hrs := wp_s hf
  subst hrs
  exact RET H locs ls 12 dX3_refuse_12 rfl hH

def fX1_isFull (yt : Int32) : Option (Int32) :=
  if yt < 96 then
    some 0
  else
    some 1

def rmX1_isFull : Room := { frames := 0, cells := 0, slots := 0, locals := 0 }
theorem mbX1_isFull_f15 : Cond.fieldLink RX1 15 (TX1 1).1 (TX1 1).2.1 (TX1 1).2.2.1 ∈ wsX1_isFull := by decide +kernel
theorem inX1_isFull_X1 : ∀ w ∈ wsX10, w ∈ wsX1_isFull := by decide +kernel
theorem hdVX1_isFull : yX1_isFull.cls = RX1 ∧ yX1_isFull.cls ≠ "java/lang/invoke/MethodHandle" ∧ yX1_isFull.cls ≠ "java/lang/invoke/VarHandle" ∧ (parseMethodDescriptor yX1_isFull.desc).map (fun d => d.parameters.length) = some 0 := by decide +kernel
set_option maxHeartbeats 4000000 in
set_option maxRecDepth 100000 in
theorem ctX1_isFull {l : Launch} {D : va_G} {cI cJ cQ : ClassId} (ad : Nat → Nat) (yl : (Nat → Int32)) (yt : Int32)  {res : Int32} (h : fX1_isFull yt = some res) : CtI l D cI cJ cQ yX1_isFull wsX1_isFull rmX1_isFull [.ref (ad 0)] (wLt cI ad yl yt) res (wLt cI ad yl yt) := by
  refine ctI_of .boolean (cc := cX1_isFull) (maxL := 1) (by decide) rfl (Nat.le_of_ble_eq_true rfl) ?_
  intro p e s m args below meth c A Q ls F hK hA RET hH hl
  obtain ⟨hx, hb, hml, hown, hts⟩ := id F
  have hl : lv_has ls 1 [(0, .ref (ad 0))] := hl
  have hf : wpO (fX1_isFull yt) (fun v => v = res) := ⟨_, h, rfl⟩
  obtain ⟨H, eH⟩ : ∃ H, H = s.heap := ⟨_, rfl⟩
  obtain ⟨locs, eL⟩ : ∃ locs : List Loc, locs = [] := ⟨_, rfl⟩
  have hH : Hs D A s.heap (wLt cI ad yl yt) H locs := by rw [eH, eL]; exact hH
  rw [← eL]
  suffices hgo : W p l e rmX1_isFull s m args below meth c H locs 0 0 Q (F0 m 0 ls []) by rw [eH] at hgo; exact hgo
  clear eH eL
  refine lv_aload_n hx hb dX1_isFull_0 rfl (lv_at hl 0 rfl) ?_
  refine k_get (v := .int yt) F hK hH 0 inX1_isFull_X1 1 mbX1_isFull_f15 dX1_isFull_1 rfl rfl (by decide) rfl ?_
  refine lv_bipush (v := 96) hx hb dX1_isFull_4 (by decide) ?_
  refine lv_icmp_lt (tgt := 13) hx hb dX1_isFull_6 (by decide) (fun hc => ?_) (fun hc => ?_)
  · have hf := wp_t hc hf
    refine lv_iconst (v := 0) hx hb dX1_isFull_13 (by decide) ?_
    have hrs := wp_s hf
    subst hrs
    exact RET H locs ls 14 dX1_isFull_14 (by show narrow .boolean (.int 0) = .int 0; rfl) hH
  · have hf := wp_f hc hf
    refine lv_iconst (v := 1) hx hb dX1_isFull_9 (by decide) ?_
    refine lv_goto (tgt := 14) hx hb dX1_isFull_10 (by decide) ?_
    have hrs := wp_s hf
    subst hrs
    exact RET H locs ls 14 dX1_isFull_14 (by show narrow .boolean (.int 1) = .int 1; rfl) hH

def fX1_add (v1 : Int32) (yl : (Nat → Int32)) (yt : Int32) : Option (Int32 × (Nat → Int32) × Int32) :=
  Option.bind (fX1_isFull yt) fun x1 =>
  if x1 = 0 then
    if ob yt 96 then none else
    some (yt + 1, upd yl (Int32.toNatClampNeg yt) v1, yt + 1)
  else
    some (yt, yl, yt)

def rmX1_add : Room := { frames := 1, cells := 0, slots := 0, locals := 20 }
theorem mbX1_add_f15 : Cond.fieldLink RX1 15 (TX1 1).1 (TX1 1).2.1 (TX1 1).2.2.1 ∈ wsX1_add := by decide +kernel
theorem inX1_add_X1 : ∀ w ∈ wsX10, w ∈ wsX1_add := by decide +kernel
theorem mbX1_add_f9 : Cond.fieldLink RX1 9 (TX1 0).1 (TX1 0).2.1 (TX1 0).2.2.1 ∈ wsX1_add := by decide +kernel
theorem hdVX1_add : yX1_add.cls = RX1 ∧ yX1_add.cls ≠ "java/lang/invoke/MethodHandle" ∧ yX1_add.cls ≠ "java/lang/invoke/VarHandle" ∧ (parseMethodDescriptor yX1_add.desc).map (fun d => d.parameters.length) = some 1 := by decide +kernel
set_option maxHeartbeats 4000000 in
set_option maxRecDepth 100000 in
theorem ctX1_add {l : Launch} {D : va_G} {cI cJ cQ : ClassId} (ad : Nat → Nat) (yl : (Nat → Int32)) (yt : Int32) (v1 : Int32) {res : Int32 × (Nat → Int32) × Int32} (h : fX1_add v1 yl yt = some res) : CtI l D cI cJ cQ yX1_add wsX1_add rmX1_add [.ref (ad 0), .int v1] (wLt cI ad yl yt) res.1 (wLt cI ad res.2.1 res.2.2) := by
  refine ctI_of .int (cc := cX1_add) (maxL := 2) (by decide) rfl (Nat.le_of_ble_eq_true rfl) ?_
  intro p e s m args below meth c A Q ls F hK hA RET hH hl
  obtain ⟨hx, hb, hml, hown, hts⟩ := id F
  have hl : lv_has ls 2 [(0, .ref (ad 0)), (1, .int v1)] := hl
  have hf : wpO (fX1_add v1 yl yt) (fun v => v = res) := ⟨_, h, rfl⟩
  obtain ⟨H, eH⟩ : ∃ H, H = s.heap := ⟨_, rfl⟩
  obtain ⟨locs, eL⟩ : ∃ locs : List Loc, locs = [] := ⟨_, rfl⟩
  have hH : Hs D A s.heap (wLt cI ad yl yt) H locs := by rw [eH, eL]; exact hH
  rw [← eL]
  suffices hgo : W p l e rmX1_add s m args below meth c H locs 0 0 Q (F0 m 0 ls []) by rw [eH] at hgo; exact hgo
  clear eH eL
  refine lv_aload_n hx hb dX1_add_0 rfl (lv_at hl 0 rfl) ?_
  obtain ⟨x1, hcl, hf⟩ := wp_b hf
  refine k_Vi0 F hK hH hA hl.1 ⟨Nat.zero_le _, Nat.zero_le _⟩ [] [] (ctX1_isFull ad yl yt hcl) (cwV 0 hts gX1_add_X1_isFull rfl rfl rfl hdVX1_isFull ⟨Nat.le_of_ble_eq_true rfl, Nat.le_of_ble_eq_true rfl⟩) dX1_add_1 0 rfl rfl rfl rfl rfl (Nat.le_of_ble_eq_true rfl) rfl (fun H locs hH => ?_)
  have hH : Hs D A s.heap (wLt cI ad yl yt) H locs := hH
  refine lv_if_ne (tgt := 27) hx hb dX1_add_4 (by decide) (fun hc => ?_) (fun hc => ?_)
  · have hf := wp_f hc hf
    refine lv_aload_n hx hb dX1_add_27 rfl (lv_at hl 0 rfl) ?_
    refine k_get (v := .int yt) F hK hH 0 inX1_add_X1 1 mbX1_add_f15 dX1_add_28 rfl rfl (by decide) rfl ?_
    have hrs := wp_s hf
    subst hrs
    exact RET H locs ls 31 dX1_add_31 rfl hH
  · have hf := wp_t hc hf
    refine lv_aload_n hx hb dX1_add_7 rfl (lv_at hl 0 rfl) ?_
    refine k_get (v := .ref (ad 1)) F hK hH 0 inX1_add_X1 0 mbX1_add_f9 dX1_add_8 rfl rfl (by decide) rfl ?_
    refine lv_aload_n hx hb dX1_add_11 rfl (lv_at hl 0 rfl) ?_
    refine k_get (v := .int yt) F hK hH 0 inX1_add_X1 1 mbX1_add_f15 dX1_add_12 rfl rfl (by decide) rfl ?_
    refine lv_iload_n hx hb dX1_add_15 rfl (lv_at hl 1 rfl) ?_
    obtain ⟨hi, hf⟩ := wp_n hf
    refine k_iast (f := yl) (n := 96) F hK hH 1 dX1_add_16 hi rfl (fun H locs hH => ?_)
    have hH : Hs D A s.heap (wLt cI ad (upd yl (Int32.toNatClampNeg yt) v1) yt) H locs := hH
    refine lv_aload_n hx hb dX1_add_17 rfl (lv_at hl 0 rfl) ?_
    refine lv_dup hx hb dX1_add_18 rfl ?_
    refine k_get (v := .int yt) F hK hH 0 inX1_add_X1 1 mbX1_add_f15 dX1_add_19 rfl rfl (by decide) rfl ?_
    refine lv_iconst (v := 1) hx hb dX1_add_22 (by decide) ?_
    refine lv_iadd hx hb dX1_add_23 ?_
    refine k_put (v := .int (yt + 1)) F hK hH 0 inX1_add_X1 tyX1 tyX1_ok nmX1 1 mbX1_add_f15 dX1_add_24 rfl rfl (by decide) rfl rfl rfl (Nat.le_of_ble_eq_true rfl) (fun H locs hH => ?_)
    have hH : Hs D A s.heap (wLt cI ad (upd yl (Int32.toNatClampNeg yt) v1) (yt + 1)) H locs := hH
    refine lv_aload_n hx hb dX1_add_27 rfl (lv_at hl 0 rfl) ?_
    refine k_get (v := .int (yt + 1)) F hK hH 0 inX1_add_X1 1 mbX1_add_f15 dX1_add_28 rfl rfl (by decide) rfl ?_
    have hrs := wp_s hf
    subst hrs
    exact RET H locs ls 31 dX1_add_31 rfl hH

def fX3_letter (v1 : Int32) (yl : (Nat → Int32)) (yt : Int32) (ye : (Nat → Int32)) : Option (Int32 × (Nat → Int32) × Int32 × (Nat → Int32)) :=
  if (0 : Int32) ≤ v1 then
    if (255 : Int32) < v1 then
      Option.bind (fX3_refuse (-6) ye) fun x1 =>
      some (x1.1, yl, yt, x1.2)
    else
      Option.bind (fX1_isFull yt) fun x2 =>
      if x2 = 0 then
        Option.bind (fX1_add v1 yl yt) fun x3 =>
        some (x3.1, x3.2.1, x3.2.2, ye)
      else
        Option.bind (fX3_refuse (-6) ye) fun x4 =>
        some (x4.1, yl, yt, x4.2)
  else
    Option.bind (fX3_refuse (-4) ye) fun x5 =>
    some (x5.1, yl, yt, x5.2)

def rmX3_letter : Room := { frames := 2, cells := 0, slots := 0, locals := 41 }
theorem mbX3_letter_f25 : Cond.fieldLink RX3 25 (TX3 3).1 (TX3 3).2.1 (TX3 3).2.2.1 ∈ wsX3_letter := by decide +kernel
theorem inX3_letter_X3 : ∀ w ∈ wsX30, w ∈ wsX3_letter := by decide +kernel
theorem hdVX3_letter : yX3_letter.cls = RX3 ∧ yX3_letter.cls ≠ "java/lang/invoke/MethodHandle" ∧ yX3_letter.cls ≠ "java/lang/invoke/VarHandle" ∧ (parseMethodDescriptor yX3_letter.desc).map (fun d => d.parameters.length) = some 1 := by decide +kernel
set_option maxHeartbeats 4000000 in
set_option maxRecDepth 100000 in
theorem ctX3_letter {l : Launch} {D : va_G} {cI cJ cQ : ClassId} (ad : Nat → Nat) (yn : LandT) (ym : LandT) (yk : LandT) (yl : (Nat → Int32)) (yt : Int32) (yd : Int32) (yu : (Nat → Int32)) (ye : (Nat → Int32)) (yv : (Nat → Int32)) (yo : (Nat → Int64)) (y0 : (Nat → Int32)) (y1 : (Nat → Int32)) (yc : Int32) (yh : Int32) (v1 : Int32) {res : Int32 × (Nat → Int32) × Int32 × (Nat → Int32)} (h : fX3_letter v1 yl yt ye = some res) : CtI l D cI cJ cQ yX3_letter wsX3_letter rmX3_letter [.ref (ad 0), .int v1] (wMn cI cJ cQ ad yn ym yk yl yt yd yu ye yv yo y0 y1 yc yh) res.1 (wMn cI cJ cQ ad yn ym yk res.2.1 res.2.2.1 yd yu res.2.2.2 yv yo y0 y1 yc yh) := by
  refine ctI_of .int (cc := cX3_letter) (maxL := 2) (by decide) rfl (Nat.le_of_ble_eq_true rfl) ?_
  intro p e s m args below meth c A Q ls F hK hA RET hH hl
  obtain ⟨hx, hb, hml, hown, hts⟩ := id F
  have hl : lv_has ls 2 [(0, .ref (ad 0)), (1, .int v1)] := hl
  have hf : wpO (fX3_letter v1 yl yt ye) (fun v => v = res) := ⟨_, h, rfl⟩
  obtain ⟨H, eH⟩ : ∃ H, H = s.heap := ⟨_, rfl⟩
  obtain ⟨locs, eL⟩ : ∃ locs : List Loc, locs = [] := ⟨_, rfl⟩
  have hH : Hs D A s.heap (wMn cI cJ cQ ad yn ym yk yl yt yd yu ye yv yo y0 y1 yc yh) H locs := by rw [eH, eL]; exact hH
  rw [← eL]
  suffices hgo : W p l e rmX3_letter s m args below meth c H locs 0 0 Q (F0 m 0 ls []) by rw [eH] at hgo; exact hgo
  clear eH eL
  refine lv_iload_n hx hb dX3_letter_0 rfl (lv_at hl 1 rfl) ?_
  refine lv_if_ge (tgt := 11) hx hb dX3_letter_1 (by decide) (fun hc => ?_) (fun hc => ?_)
  · have hf := wp_t hc hf
    refine lv_iload_n hx hb dX3_letter_11 rfl (lv_at hl 1 rfl) ?_
    refine lv_sipush (v := 255) hx hb dX3_letter_12 (by decide) ?_
    refine lv_icmp_gt (tgt := 28) hx hb dX3_letter_15 (by decide) (fun hc => ?_) (fun hc => ?_)
    · have hf := wp_t hc hf
      refine lv_aload_n hx hb dX3_letter_28 rfl (lv_at hl 0 rfl) ?_
      refine lv_bipush (v := (-6)) hx hb dX3_letter_29 (by decide) ?_
      obtain ⟨x1, hcl, hf⟩ := wp_b hf
      refine k_Vi0 F hK hH hA hl.1 ⟨Nat.zero_le _, Nat.zero_le _⟩ [.int (-6)] [] (ctX3_refuse ad yn ym yk yl yt yd yu ye yv yo y0 y1 yc yh (-6) hcl) (cwV 1 hts gX3_letter_X3_refuse rfl rfl rfl hdVX3_refuse ⟨Nat.le_of_ble_eq_true rfl, Nat.le_of_ble_eq_true rfl⟩) dX3_letter_31 0 rfl rfl rfl rfl rfl (Nat.le_of_ble_eq_true rfl) rfl (fun H locs hH => ?_)
      have hH : Hs D A s.heap (wMn cI cJ cQ ad yn ym yk yl yt yd yu x1.2 yv yo y0 y1 yc yh) H locs := hH
      refine W.eq (g2 := F0 m 34 ls [.int x1.1]) rfl ?_
      have hrs := wp_s hf
      subst hrs
      exact RET H locs ls 34 dX3_letter_34 rfl hH
    · have hf := wp_f hc hf
      refine lv_aload_n hx hb dX3_letter_18 rfl (lv_at hl 0 rfl) ?_
      refine k_get (v := .ref (ad 25)) F hK hH 0 inX3_letter_X3 3 mbX3_letter_f25 dX3_letter_19 rfl rfl (by decide) rfl ?_
      obtain ⟨x2, hcl, hf⟩ := wp_b hf
      refine k_Vi F hK hH hA hl.1 ⟨Nat.zero_le _, Nat.zero_le _⟩ [25, 26] [] [] (ctX1_isFull (fun k => ad (25 + k)) yl yt hcl) (cwV 0 hts gX3_letter_X1_isFull rfl rfl rfl hdVX1_isFull ⟨Nat.le_of_ble_eq_true rfl, Nat.le_of_ble_eq_true rfl⟩) dX3_letter_22 25 rfl rfl rfl rfl rfl (Nat.le_of_ble_eq_true rfl) rfl rfl (by decide) (fun H locs hH => ?_)
      have hH : Hs D A s.heap (wMn cI cJ cQ ad yn ym yk yl yt yd yu ye yv yo y0 y1 yc yh) H locs := hH
      refine lv_if_eq (tgt := 35) hx hb dX3_letter_25 (by decide) (fun hc => ?_) (fun hc => ?_)
      · have hf := wp_t hc hf
        refine lv_aload_n hx hb dX3_letter_35 rfl (lv_at hl 0 rfl) ?_
        refine k_get (v := .ref (ad 25)) F hK hH 0 inX3_letter_X3 3 mbX3_letter_f25 dX3_letter_36 rfl rfl (by decide) rfl ?_
        refine lv_iload_n hx hb dX3_letter_39 rfl (lv_at hl 1 rfl) ?_
        obtain ⟨x3, hcl, hf⟩ := wp_b hf
        refine k_Vi F hK hH hA hl.1 ⟨Nat.zero_le _, Nat.zero_le _⟩ [25, 26] [.int v1] [] (ctX1_add (fun k => ad (25 + k)) yl yt v1 hcl) (cwV 1 hts gX3_letter_X1_add rfl rfl rfl hdVX1_add ⟨Nat.le_of_ble_eq_true rfl, Nat.le_of_ble_eq_true rfl⟩) dX3_letter_40 25 rfl rfl rfl rfl rfl (Nat.le_of_ble_eq_true rfl) rfl rfl (by decide) (fun H locs hH => ?_)
        have hH : Hs D A s.heap (wMn cI cJ cQ ad yn ym yk x3.2.1 x3.2.2 yd yu ye yv yo y0 y1 yc yh) H locs := hH
        refine W.eq (g2 := F0 m 43 ls [.int x3.1]) rfl ?_
        have hrs := wp_s hf
        subst hrs
        exact RET H locs ls 43 dX3_letter_43 rfl hH
      · have hf := wp_f hc hf
        refine lv_aload_n hx hb dX3_letter_28 rfl (lv_at hl 0 rfl) ?_
        refine lv_bipush (v := (-6)) hx hb dX3_letter_29 (by decide) ?_
        obtain ⟨x4, hcl, hf⟩ := wp_b hf
        refine k_Vi0 F hK hH hA hl.1 ⟨Nat.zero_le _, Nat.zero_le _⟩ [.int (-6)] [] (ctX3_refuse ad yn ym yk yl yt yd yu ye yv yo y0 y1 yc yh (-6) hcl) (cwV 1 hts gX3_letter_X3_refuse rfl rfl rfl hdVX3_refuse ⟨Nat.le_of_ble_eq_true rfl, Nat.le_of_ble_eq_true rfl⟩) dX3_letter_31 0 rfl rfl rfl rfl rfl (Nat.le_of_ble_eq_true rfl) rfl (fun H locs hH => ?_)
        have hH : Hs D A s.heap (wMn cI cJ cQ ad yn ym yk yl yt yd yu x4.2 yv yo y0 y1 yc yh) H locs := hH
        refine W.eq (g2 := F0 m 34 ls [.int x4.1]) rfl ?_
        have hrs := wp_s hf
        subst hrs
        exact RET H locs ls 34 dX3_letter_34 rfl hH
  · have hf := wp_f hc hf
    refine lv_aload_n hx hb dX3_letter_4 rfl (lv_at hl 0 rfl) ?_
    refine lv_bipush (v := (-4)) hx hb dX3_letter_5 (by decide) ?_
    obtain ⟨x5, hcl, hf⟩ := wp_b hf
    refine k_Vi0 F hK hH hA hl.1 ⟨Nat.zero_le _, Nat.zero_le _⟩ [.int (-4)] [] (ctX3_refuse ad yn ym yk yl yt yd yu ye yv yo y0 y1 yc yh (-4) hcl) (cwV 1 hts gX3_letter_X3_refuse rfl rfl rfl hdVX3_refuse ⟨Nat.le_of_ble_eq_true rfl, Nat.le_of_ble_eq_true rfl⟩) dX3_letter_7 0 rfl rfl rfl rfl rfl (Nat.le_of_ble_eq_true rfl) rfl (fun H locs hH => ?_)
    have hH : Hs D A s.heap (wMn cI cJ cQ ad yn ym yk yl yt yd yu x5.2 yv yo y0 y1 yc yh) H locs := hH
    refine W.eq (g2 := F0 m 10 ls [.int x5.1]) rfl ?_
    have hrs := wp_s hf
    subst hrs
    exact RET H locs ls 10 dX3_letter_10 rfl hH

def fX3_thing (v1 : Int32) (v2 : Int32) (yn : LandT) (ye : (Nat → Int32)) : Option (Int32 × (Nat → Int32)) :=
  Option.bind (fX0_hasThing v1 yn) fun x1 =>
  if x1 = 0 then
    Option.bind (fX3_refuse (-1) ye) fun x6 =>
    some (x6.1, x6.2)
  else
    if v2 = 0 then
      if ob v1 7 then none else
      some ((gK yn) (Int32.toNatClampNeg v1), ye)
    else
      if v2 = 1 then
        if ob v1 7 then none else
        some ((gF yn) (Int32.toNatClampNeg v1), ye)
      else
        if v2 = 2 then
          if ob v1 7 then none else
          some ((gP yn) (Int32.toNatClampNeg v1), ye)
        else
          if v2 = 3 then
            Option.bind (fX0_isHidden v1 yn) fun x2 =>
            if x2 = 0 then
              some (0, ye)
            else
              some (1, ye)
          else
            if v2 = 4 then
              Option.bind (fX0_topOf v1 yn) fun x3 =>
              some (x3, ye)
            else
              if v2 = 5 then
                Option.bind (fX0_stepsOf v1 ((gT yn) + 1) yn) fun x4 =>
                some (x4, ye)
              else
                Option.bind (fX3_refuse (-2) ye) fun x5 =>
                some (x5.1, x5.2)

def rmX3_thing : Room := { frames := 2, cells := 0, slots := 0, locals := 43 }
theorem mbX3_thing_f10 : Cond.fieldLink RX3 10 (TX3 0).1 (TX3 0).2.1 (TX3 0).2.2.1 ∈ wsX3_thing := by decide +kernel
theorem inX3_thing_X3 : ∀ w ∈ wsX30, w ∈ wsX3_thing := by decide +kernel
theorem mbX3_thing_f92 : Cond.fieldLink RX3 92 (TX0 2).1 (TX0 2).2.1 (TX0 2).2.2.1 ∈ wsX3_thing := by decide +kernel
theorem inX3_thing_X0 : ∀ w ∈ wsX00, w ∈ wsX3_thing := by decide +kernel
theorem mbX3_thing_f95 : Cond.fieldLink RX3 95 (TX0 3).1 (TX0 3).2.1 (TX0 3).2.2.1 ∈ wsX3_thing := by decide +kernel
theorem mbX3_thing_f98 : Cond.fieldLink RX3 98 (TX0 4).1 (TX0 4).2.1 (TX0 4).2.2.1 ∈ wsX3_thing := by decide +kernel
theorem mbX3_thing_f107 : Cond.fieldLink RX3 107 (TX0 10).1 (TX0 10).2.1 (TX0 10).2.2.1 ∈ wsX3_thing := by decide +kernel
theorem hdVX3_thing : yX3_thing.cls = RX3 ∧ yX3_thing.cls ≠ "java/lang/invoke/MethodHandle" ∧ yX3_thing.cls ≠ "java/lang/invoke/VarHandle" ∧ (parseMethodDescriptor yX3_thing.desc).map (fun d => d.parameters.length) = some 2 := by decide +kernel
set_option maxHeartbeats 4000000 in
set_option maxRecDepth 100000 in
theorem ctX3_thing {l : Launch} {D : va_G} {cI cJ cQ : ClassId} (ad : Nat → Nat) (yn : LandT) (ym : LandT) (yk : LandT) (yl : (Nat → Int32)) (yt : Int32) (yd : Int32) (yu : (Nat → Int32)) (ye : (Nat → Int32)) (yv : (Nat → Int32)) (yo : (Nat → Int64)) (y0 : (Nat → Int32)) (y1 : (Nat → Int32)) (yc : Int32) (yh : Int32) (v1 : Int32) (v2 : Int32) {res : Int32 × (Nat → Int32)} (h : fX3_thing v1 v2 yn ye = some res) : CtI l D cI cJ cQ yX3_thing wsX3_thing rmX3_thing [.ref (ad 0), .int v1, .int v2] (wMn cI cJ cQ ad yn ym yk yl yt yd yu ye yv yo y0 y1 yc yh) res.1 (wMn cI cJ cQ ad yn ym yk yl yt yd yu res.2 yv yo y0 y1 yc yh) := by
  refine ctI_of .int (cc := cX3_thing) (maxL := 3) (by decide) rfl (Nat.le_of_ble_eq_true rfl) ?_
  intro p e s m args below meth c A Q ls F hK hA RET hH hl
  obtain ⟨hx, hb, hml, hown, hts⟩ := id F
  have hl : lv_has ls 3 [(0, .ref (ad 0)), (1, .int v1), (2, .int v2)] := hl
  have hf : wpO (fX3_thing v1 v2 yn ye) (fun v => v = res) := ⟨_, h, rfl⟩
  obtain ⟨H, eH⟩ : ∃ H, H = s.heap := ⟨_, rfl⟩
  obtain ⟨locs, eL⟩ : ∃ locs : List Loc, locs = [] := ⟨_, rfl⟩
  have hH : Hs D A s.heap (wMn cI cJ cQ ad yn ym yk yl yt yd yu ye yv yo y0 y1 yc yh) H locs := by rw [eH, eL]; exact hH
  rw [← eL]
  suffices hgo : W p l e rmX3_thing s m args below meth c H locs 0 0 Q (F0 m 0 ls []) by rw [eH] at hgo; exact hgo
  clear eH eL
  refine lv_aload_n hx hb dX3_thing_0 rfl (lv_at hl 0 rfl) ?_
  refine k_get (v := .ref (ad 1)) F hK hH 0 inX3_thing_X3 0 mbX3_thing_f10 dX3_thing_1 rfl rfl (by decide) rfl ?_
  refine lv_iload_n hx hb dX3_thing_4 rfl (lv_at hl 1 rfl) ?_
  obtain ⟨x1, hcl, hf⟩ := wp_b hf
  refine k_Vi F hK hH hA hl.1 ⟨Nat.zero_le _, Nat.zero_le _⟩ [1, 2, 3, 4, 5, 6, 7, 8] [.int v1] [] (ctX0_hasThing (fun k => ad (1 + k)) yn v1 hcl) (cwV 1 hts gX3_thing_X0_hasThing rfl rfl rfl hdVX0_hasThing ⟨Nat.le_of_ble_eq_true rfl, Nat.le_of_ble_eq_true rfl⟩) dX3_thing_5 1 rfl rfl rfl rfl rfl (Nat.le_of_ble_eq_true rfl) rfl rfl (by decide) (fun H locs hH => ?_)
  have hH : Hs D A s.heap (wMn cI cJ cQ ad yn ym yk yl yt yd yu ye yv yo y0 y1 yc yh) H locs := hH
  refine lv_if_ne (tgt := 17) hx hb dX3_thing_8 (by decide) (fun hc => ?_) (fun hc => ?_)
  · have hf := wp_f hc hf
    refine lv_iload_n hx hb dX3_thing_17 rfl (lv_at hl 2 rfl) ?_
    by_cases hc0 : v2 = 0
    · have hf := wp_t hc0 hf
      refine lv_tableIn (tgt := 56) hx hb dX3_thing_18 (by rw [hc0]; decide) (by rw [hc0]; decide) (by rw [hc0]; try rfl) (by decide) ?_
      refine lv_aload_n hx hb dX3_thing_56 rfl (lv_at hl 0 rfl) ?_
      refine k_get (v := .ref (ad 1)) F hK hH 0 inX3_thing_X3 0 mbX3_thing_f10 dX3_thing_57 rfl rfl (by decide) rfl ?_
      refine k_get (v := .ref (ad 4)) F hK hH 1 inX3_thing_X0 2 mbX3_thing_f92 dX3_thing_60 rfl rfl (by decide) rfl ?_
      refine lv_iload_n hx hb dX3_thing_63 rfl (lv_at hl 1 rfl) ?_
      obtain ⟨hi, hf⟩ := wp_n hf
      refine k_iald (f := gK yn) (n := 7) F hK hH 4 dX3_thing_64 hi rfl ?_
      have hrs := wp_s hf
      subst hrs
      exact RET H locs ls 65 dX3_thing_65 rfl hH
    · have hf := wp_f hc0 hf
      by_cases hc1 : v2 = 1
      · have hf := wp_t hc1 hf
        refine lv_tableIn (tgt := 66) hx hb dX3_thing_18 (by rw [hc1]; decide) (by rw [hc1]; decide) (by rw [hc1]; try rfl) (by decide) ?_
        refine lv_aload_n hx hb dX3_thing_66 rfl (lv_at hl 0 rfl) ?_
        refine k_get (v := .ref (ad 1)) F hK hH 0 inX3_thing_X3 0 mbX3_thing_f10 dX3_thing_67 rfl rfl (by decide) rfl ?_
        refine k_get (v := .ref (ad 5)) F hK hH 1 inX3_thing_X0 3 mbX3_thing_f95 dX3_thing_70 rfl rfl (by decide) rfl ?_
        refine lv_iload_n hx hb dX3_thing_73 rfl (lv_at hl 1 rfl) ?_
        obtain ⟨hi, hf⟩ := wp_n hf
        refine k_iald (f := gF yn) (n := 7) F hK hH 5 dX3_thing_74 hi rfl ?_
        have hrs := wp_s hf
        subst hrs
        exact RET H locs ls 75 dX3_thing_75 rfl hH
      · have hf := wp_f hc1 hf
        by_cases hc2 : v2 = 2
        · have hf := wp_t hc2 hf
          refine lv_tableIn (tgt := 76) hx hb dX3_thing_18 (by rw [hc2]; decide) (by rw [hc2]; decide) (by rw [hc2]; try rfl) (by decide) ?_
          refine lv_aload_n hx hb dX3_thing_76 rfl (lv_at hl 0 rfl) ?_
          refine k_get (v := .ref (ad 1)) F hK hH 0 inX3_thing_X3 0 mbX3_thing_f10 dX3_thing_77 rfl rfl (by decide) rfl ?_
          refine k_get (v := .ref (ad 6)) F hK hH 1 inX3_thing_X0 4 mbX3_thing_f98 dX3_thing_80 rfl rfl (by decide) rfl ?_
          refine lv_iload_n hx hb dX3_thing_83 rfl (lv_at hl 1 rfl) ?_
          obtain ⟨hi, hf⟩ := wp_n hf
          refine k_iald (f := gP yn) (n := 7) F hK hH 6 dX3_thing_84 hi rfl ?_
          have hrs := wp_s hf
          subst hrs
          exact RET H locs ls 85 dX3_thing_85 rfl hH
        · have hf := wp_f hc2 hf
          by_cases hc3 : v2 = 3
          · have hf := wp_t hc3 hf
            refine lv_tableIn (tgt := 86) hx hb dX3_thing_18 (by rw [hc3]; decide) (by rw [hc3]; decide) (by rw [hc3]; try rfl) (by decide) ?_
            refine lv_aload_n hx hb dX3_thing_86 rfl (lv_at hl 0 rfl) ?_
            refine k_get (v := .ref (ad 1)) F hK hH 0 inX3_thing_X3 0 mbX3_thing_f10 dX3_thing_87 rfl rfl (by decide) rfl ?_
            refine lv_iload_n hx hb dX3_thing_90 rfl (lv_at hl 1 rfl) ?_
            obtain ⟨x2, hcl, hf⟩ := wp_b hf
            refine k_Vi F hK hH hA hl.1 ⟨Nat.zero_le _, Nat.zero_le _⟩ [1, 2, 3, 4, 5, 6, 7, 8] [.int v1] [] (ctX0_isHidden (fun k => ad (1 + k)) yn v1 hcl) (cwV 1 hts gX3_thing_X0_isHidden rfl rfl rfl hdVX0_isHidden ⟨Nat.le_of_ble_eq_true rfl, Nat.le_of_ble_eq_true rfl⟩) dX3_thing_91 1 rfl rfl rfl rfl rfl (Nat.le_of_ble_eq_true rfl) rfl rfl (by decide) (fun H locs hH => ?_)
            have hH : Hs D A s.heap (wMn cI cJ cQ ad yn ym yk yl yt yd yu ye yv yo y0 y1 yc yh) H locs := hH
            refine lv_if_eq (tgt := 101) hx hb dX3_thing_94 (by decide) (fun hc => ?_) (fun hc => ?_)
            · have hf := wp_t hc hf
              refine lv_iconst (v := 0) hx hb dX3_thing_101 (by decide) ?_
              have hrs := wp_s hf
              subst hrs
              exact RET H locs ls 102 dX3_thing_102 rfl hH
            · have hf := wp_f hc hf
              refine lv_iconst (v := 1) hx hb dX3_thing_97 (by decide) ?_
              refine lv_goto (tgt := 102) hx hb dX3_thing_98 (by decide) ?_
              have hrs := wp_s hf
              subst hrs
              exact RET H locs ls 102 dX3_thing_102 rfl hH
          · have hf := wp_f hc3 hf
            by_cases hc4 : v2 = 4
            · have hf := wp_t hc4 hf
              refine lv_tableIn (tgt := 103) hx hb dX3_thing_18 (by rw [hc4]; decide) (by rw [hc4]; decide) (by rw [hc4]; try rfl) (by decide) ?_
              refine lv_aload_n hx hb dX3_thing_103 rfl (lv_at hl 0 rfl) ?_
              refine k_get (v := .ref (ad 1)) F hK hH 0 inX3_thing_X3 0 mbX3_thing_f10 dX3_thing_104 rfl rfl (by decide) rfl ?_
              refine lv_iload_n hx hb dX3_thing_107 rfl (lv_at hl 1 rfl) ?_
              obtain ⟨x3, hcl, hf⟩ := wp_b hf
              refine k_Vi F hK hH hA hl.1 ⟨Nat.zero_le _, Nat.zero_le _⟩ [1, 2, 3, 4, 5, 6, 7, 8] [.int v1] [] (ctX0_topOf (fun k => ad (1 + k)) yn v1 hcl) (cwV 1 hts gX3_thing_X0_topOf rfl rfl rfl hdVX0_topOf ⟨Nat.le_of_ble_eq_true rfl, Nat.le_of_ble_eq_true rfl⟩) dX3_thing_108 1 rfl rfl rfl rfl rfl (Nat.le_of_ble_eq_true rfl) rfl rfl (by decide) (fun H locs hH => ?_)
              have hH : Hs D A s.heap (wMn cI cJ cQ ad yn ym yk yl yt yd yu ye yv yo y0 y1 yc yh) H locs := hH
              have hrs := wp_s hf
              subst hrs
              exact RET H locs ls 111 dX3_thing_111 rfl hH
            · have hf := wp_f hc4 hf
              by_cases hc5 : v2 = 5
              · have hf := wp_t hc5 hf
                refine lv_tableIn (tgt := 112) hx hb dX3_thing_18 (by rw [hc5]; decide) (by rw [hc5]; decide) (by rw [hc5]; try rfl) (by decide) ?_
                refine lv_aload_n hx hb dX3_thing_112 rfl (lv_at hl 0 rfl) ?_
                refine k_get (v := .ref (ad 1)) F hK hH 0 inX3_thing_X3 0 mbX3_thing_f10 dX3_thing_113 rfl rfl (by decide) rfl ?_
                refine lv_iload_n hx hb dX3_thing_116 rfl (lv_at hl 1 rfl) ?_
                refine lv_aload_n hx hb dX3_thing_117 rfl (lv_at hl 0 rfl) ?_
                refine k_get (v := .ref (ad 1)) F hK hH 0 inX3_thing_X3 0 mbX3_thing_f10 dX3_thing_118 rfl rfl (by decide) rfl ?_
                refine k_get (v := .int (gT yn)) F hK hH 1 inX3_thing_X0 10 mbX3_thing_f107 dX3_thing_121 rfl rfl (by decide) rfl ?_
                refine lv_iconst (v := 1) hx hb dX3_thing_124 (by decide) ?_
                refine lv_iadd hx hb dX3_thing_125 ?_
                obtain ⟨x4, hcl, hf⟩ := wp_b hf
                refine k_Vi F hK hH hA hl.1 ⟨Nat.zero_le _, Nat.zero_le _⟩ [1, 2, 3, 4, 5, 6, 7, 8] [.int v1, .int ((gT yn) + 1)] [] (ctX0_stepsOf (fun k => ad (1 + k)) yn v1 ((gT yn) + 1) hcl) (cwV 2 hts gX3_thing_X0_stepsOf rfl rfl rfl hdVX0_stepsOf ⟨Nat.le_of_ble_eq_true rfl, Nat.le_of_ble_eq_true rfl⟩) dX3_thing_126 1 rfl rfl rfl rfl rfl (Nat.le_of_ble_eq_true rfl) rfl rfl (by decide) (fun H locs hH => ?_)
                have hH : Hs D A s.heap (wMn cI cJ cQ ad yn ym yk yl yt yd yu ye yv yo y0 y1 yc yh) H locs := hH
                have hrs := wp_s hf
                subst hrs
                exact RET H locs ls 129 dX3_thing_129 rfl hH
              · have hf := wp_f hc5 hf
                have hs0 := sw_ne hc0 (show (0 : Int32).toInt = 0 from rfl)
                have hs1 := sw_ne hc1 (show (1 : Int32).toInt = 1 from rfl)
                have hs2 := sw_ne hc2 (show (2 : Int32).toInt = 2 from rfl)
                have hs3 := sw_ne hc3 (show (3 : Int32).toInt = 3 from rfl)
                have hs4 := sw_ne hc4 (show (4 : Int32).toInt = 4 from rfl)
                have hs5 := sw_ne hc5 (show (5 : Int32).toInt = 5 from rfl)
                refine lv_tableOut (tgt := 130) hx hb dX3_thing_18 (by omega) (by decide) ?_
                refine lv_aload_n hx hb dX3_thing_130 rfl (lv_at hl 0 rfl) ?_
                refine lv_bipush (v := (-2)) hx hb dX3_thing_131 (by decide) ?_
                obtain ⟨x5, hcl, hf⟩ := wp_b hf
                refine k_Vi0 F hK hH hA hl.1 ⟨Nat.zero_le _, Nat.zero_le _⟩ [.int (-2)] [] (ctX3_refuse ad yn ym yk yl yt yd yu ye yv yo y0 y1 yc yh (-2) hcl) (cwV 1 hts gX3_thing_X3_refuse rfl rfl rfl hdVX3_refuse ⟨Nat.le_of_ble_eq_true rfl, Nat.le_of_ble_eq_true rfl⟩) dX3_thing_133 0 rfl rfl rfl rfl rfl (Nat.le_of_ble_eq_true rfl) rfl (fun H locs hH => ?_)
                have hH : Hs D A s.heap (wMn cI cJ cQ ad yn ym yk yl yt yd yu x5.2 yv yo y0 y1 yc yh) H locs := hH
                refine W.eq (g2 := F0 m 136 ls [.int x5.1]) rfl ?_
                have hrs := wp_s hf
                subst hrs
                exact RET H locs ls 136 dX3_thing_136 rfl hH
  · have hf := wp_t hc hf
    refine lv_aload_n hx hb dX3_thing_11 rfl (lv_at hl 0 rfl) ?_
    refine lv_iconst (v := (-1)) hx hb dX3_thing_12 (by decide) ?_
    obtain ⟨x6, hcl, hf⟩ := wp_b hf
    refine k_Vi0 F hK hH hA hl.1 ⟨Nat.zero_le _, Nat.zero_le _⟩ [.int (-1)] [] (ctX3_refuse ad yn ym yk yl yt yd yu ye yv yo y0 y1 yc yh (-1) hcl) (cwV 1 hts gX3_thing_X3_refuse rfl rfl rfl hdVX3_refuse ⟨Nat.le_of_ble_eq_true rfl, Nat.le_of_ble_eq_true rfl⟩) dX3_thing_13 0 rfl rfl rfl rfl rfl (Nat.le_of_ble_eq_true rfl) rfl (fun H locs hH => ?_)
    have hH : Hs D A s.heap (wMn cI cJ cQ ad yn ym yk yl yt yd yu x6.2 yv yo y0 y1 yc yh) H locs := hH
    refine W.eq (g2 := F0 m 16 ls [.int x6.1]) rfl ?_
    have hrs := wp_s hf
    subst hrs
    exact RET H locs ls 16 dX3_thing_16 rfl hH

def fX3_isCell (v0 : Int32) : Option (Int32) :=
  Option.bind (fX3_isWithin v0 0 15) fun x1 =>
  (bo x1).bind fun z2 =>
  some z2

def rmX3_isCell : Room := { frames := 1, cells := 0, slots := 0, locals := 22 }
theorem hdSX3_isCell : yX3_isCell.cls ≠ "java/lang/invoke/MethodHandle" ∧ yX3_isCell.cls ≠ "java/lang/invoke/VarHandle" ∧ (parseMethodDescriptor yX3_isCell.desc).map (fun d => d.parameters.length) = some 1 := by decide +kernel
set_option maxHeartbeats 4000000 in
set_option maxRecDepth 100000 in
theorem ctX3_isCell {l : Launch} {D : va_G} {cI cJ cQ : ClassId}   (v0 : Int32) {res : Int32} (h : fX3_isCell v0 = some res) : CtI l D cI cJ cQ yX3_isCell wsX3_isCell rmX3_isCell [.int v0] ([]) res ([]) := by
  refine ctI_of .boolean (cc := cX3_isCell) (maxL := 1) (by decide) rfl (Nat.le_of_ble_eq_true rfl) ?_
  intro p e s m args below meth c A Q ls F hK hA RET hH hl
  obtain ⟨hx, hb, hml, hown, hts⟩ := id F
  have hl : lv_has ls 1 [(0, .int v0)] := hl
  have hf : wpO (fX3_isCell v0) (fun v => v = res) := ⟨_, h, rfl⟩
  obtain ⟨H, eH⟩ : ∃ H, H = s.heap := ⟨_, rfl⟩
  obtain ⟨locs, eL⟩ : ∃ locs : List Loc, locs = [] := ⟨_, rfl⟩
  have hH : Hs D A s.heap ([]) H locs := by rw [eH, eL]; exact hH
  rw [← eL]
  suffices hgo : W p l e rmX3_isCell s m args below meth c H locs 0 0 Q (F0 m 0 ls []) by rw [eH] at hgo; exact hgo
  clear eH eL
  refine lv_iload_n hx hb dX3_isCell_0 rfl (lv_at hl 0 rfl) ?_
  refine lv_iconst (v := 0) hx hb dX3_isCell_1 (by decide) ?_
  refine lv_bipush (v := 15) hx hb dX3_isCell_2 (by decide) ?_
  obtain ⟨x1, hcl, hf⟩ := wp_b hf
  refine k_Si F hK hH hA hl.1 ⟨Nat.zero_le _, Nat.zero_le _⟩ [] [.int v0, .int 0, .int 15] [] (ctX3_isWithin v0 0 15 hcl) (va_cwS 3 hts gX3_isCell_X3_isWithin rfl rfl rfl hdSX3_isWithin ⟨Nat.le_of_ble_eq_true rfl, Nat.le_of_ble_eq_true rfl⟩) dX3_isCell_4 rfl rfl (Nat.le_of_ble_eq_true rfl) rfl rfl (by decide) (fun H locs hH => ?_)
  have hH : Hs D A s.heap ([]) H locs := hH
  obtain ⟨z2, hbo, hf⟩ := wp_b hf
  obtain ⟨hbe, hnb⟩ := bo_narrow hbo
  rw [hbe] at hf
  have hrs := wp_s hf
  subst hrs
  exact RET H locs ls 7 dX3_isCell_7 hnb hH

def fX3_height (v1 : Int32) (yn : LandT) (ye : (Nat → Int32)) : Option (Int32 × (Nat → Int32)) :=
  Option.bind (fX3_isCell v1) fun x1 =>
  if x1 = 0 then
    Option.bind (fX3_refuse (-1) ye) fun x2 =>
    some (x2.1, x2.2)
  else
    if ob v1 16 then none else
    some ((gH yn) (Int32.toNatClampNeg v1), ye)

def rmX3_height : Room := { frames := 2, cells := 0, slots := 0, locals := 42 }
theorem mbX3_height_f10 : Cond.fieldLink RX3 10 (TX3 0).1 (TX3 0).2.1 (TX3 0).2.2.1 ∈ wsX3_height := by decide +kernel
theorem inX3_height_X3 : ∀ w ∈ wsX30, w ∈ wsX3_height := by decide +kernel
theorem mbX3_height_f118 : Cond.fieldLink RX3 118 (TX0 0).1 (TX0 0).2.1 (TX0 0).2.2.1 ∈ wsX3_height := by decide +kernel
theorem inX3_height_X0 : ∀ w ∈ wsX00, w ∈ wsX3_height := by decide +kernel
theorem hdVX3_height : yX3_height.cls = RX3 ∧ yX3_height.cls ≠ "java/lang/invoke/MethodHandle" ∧ yX3_height.cls ≠ "java/lang/invoke/VarHandle" ∧ (parseMethodDescriptor yX3_height.desc).map (fun d => d.parameters.length) = some 1 := by decide +kernel
set_option maxHeartbeats 4000000 in
set_option maxRecDepth 100000 in
theorem ctX3_height {l : Launch} {D : va_G} {cI cJ cQ : ClassId} (ad : Nat → Nat) (yn : LandT) (ym : LandT) (yk : LandT) (yl : (Nat → Int32)) (yt : Int32) (yd : Int32) (yu : (Nat → Int32)) (ye : (Nat → Int32)) (yv : (Nat → Int32)) (yo : (Nat → Int64)) (y0 : (Nat → Int32)) (y1 : (Nat → Int32)) (yc : Int32) (yh : Int32) (v1 : Int32) {res : Int32 × (Nat → Int32)} (h : fX3_height v1 yn ye = some res) : CtI l D cI cJ cQ yX3_height wsX3_height rmX3_height [.ref (ad 0), .int v1] (wMn cI cJ cQ ad yn ym yk yl yt yd yu ye yv yo y0 y1 yc yh) res.1 (wMn cI cJ cQ ad yn ym yk yl yt yd yu res.2 yv yo y0 y1 yc yh) := by
  refine ctI_of .int (cc := cX3_height) (maxL := 2) (by decide) rfl (Nat.le_of_ble_eq_true rfl) ?_
  intro p e s m args below meth c A Q ls F hK hA RET hH hl
  obtain ⟨hx, hb, hml, hown, hts⟩ := id F
  have hl : lv_has ls 2 [(0, .ref (ad 0)), (1, .int v1)] := hl
  have hf : wpO (fX3_height v1 yn ye) (fun v => v = res) := ⟨_, h, rfl⟩
  obtain ⟨H, eH⟩ : ∃ H, H = s.heap := ⟨_, rfl⟩
  obtain ⟨locs, eL⟩ : ∃ locs : List Loc, locs = [] := ⟨_, rfl⟩
  have hH : Hs D A s.heap (wMn cI cJ cQ ad yn ym yk yl yt yd yu ye yv yo y0 y1 yc yh) H locs := by rw [eH, eL]; exact hH
  rw [← eL]
  suffices hgo : W p l e rmX3_height s m args below meth c H locs 0 0 Q (F0 m 0 ls []) by rw [eH] at hgo; exact hgo
  clear eH eL
  refine lv_iload_n hx hb dX3_height_0 rfl (lv_at hl 1 rfl) ?_
  obtain ⟨x1, hcl, hf⟩ := wp_b hf
  refine k_Si F hK hH hA hl.1 ⟨Nat.zero_le _, Nat.zero_le _⟩ [] [.int v1] [] (ctX3_isCell v1 hcl) (va_cwS 1 hts gX3_height_X3_isCell rfl rfl rfl hdSX3_isCell ⟨Nat.le_of_ble_eq_true rfl, Nat.le_of_ble_eq_true rfl⟩) dX3_height_1 rfl rfl (Nat.le_of_ble_eq_true rfl) rfl rfl (by decide) (fun H locs hH => ?_)
  have hH : Hs D A s.heap (wMn cI cJ cQ ad yn ym yk yl yt yd yu ye yv yo y0 y1 yc yh) H locs := hH
  refine lv_if_ne (tgt := 13) hx hb dX3_height_4 (by decide) (fun hc => ?_) (fun hc => ?_)
  · have hf := wp_f hc hf
    refine lv_aload_n hx hb dX3_height_13 rfl (lv_at hl 0 rfl) ?_
    refine k_get (v := .ref (ad 1)) F hK hH 0 inX3_height_X3 0 mbX3_height_f10 dX3_height_14 rfl rfl (by decide) rfl ?_
    refine k_get (v := .ref (ad 2)) F hK hH 1 inX3_height_X0 0 mbX3_height_f118 dX3_height_17 rfl rfl (by decide) rfl ?_
    refine lv_iload_n hx hb dX3_height_20 rfl (lv_at hl 1 rfl) ?_
    obtain ⟨hi, hf⟩ := wp_n hf
    refine k_iald (f := gH yn) (n := 16) F hK hH 2 dX3_height_21 hi rfl ?_
    have hrs := wp_s hf
    subst hrs
    exact RET H locs ls 22 dX3_height_22 rfl hH
  · have hf := wp_t hc hf
    refine lv_aload_n hx hb dX3_height_7 rfl (lv_at hl 0 rfl) ?_
    refine lv_iconst (v := (-1)) hx hb dX3_height_8 (by decide) ?_
    obtain ⟨x2, hcl, hf⟩ := wp_b hf
    refine k_Vi0 F hK hH hA hl.1 ⟨Nat.zero_le _, Nat.zero_le _⟩ [.int (-1)] [] (ctX3_refuse ad yn ym yk yl yt yd yu ye yv yo y0 y1 yc yh (-1) hcl) (cwV 1 hts gX3_height_X3_refuse rfl rfl rfl hdVX3_refuse ⟨Nat.le_of_ble_eq_true rfl, Nat.le_of_ble_eq_true rfl⟩) dX3_height_9 0 rfl rfl rfl rfl rfl (Nat.le_of_ble_eq_true rfl) rfl (fun H locs hH => ?_)
    have hH : Hs D A s.heap (wMn cI cJ cQ ad yn ym yk yl yt yd yu x2.2 yv yo y0 y1 yc yh) H locs := hH
    refine W.eq (g2 := F0 m 12 ls [.int x2.1]) rfl ?_
    have hrs := wp_s hf
    subst hrs
    exact RET H locs ls 12 dX3_height_12 rfl hH

def fX3_isKind (v0 : Int32) : Option (Int32) :=
  Option.bind (fX3_isWithin v0 0 5) fun x1 =>
  (bo x1).bind fun z2 =>
  some z2

def rmX3_isKind : Room := { frames := 1, cells := 0, slots := 0, locals := 22 }
theorem hdSX3_isKind : yX3_isKind.cls ≠ "java/lang/invoke/MethodHandle" ∧ yX3_isKind.cls ≠ "java/lang/invoke/VarHandle" ∧ (parseMethodDescriptor yX3_isKind.desc).map (fun d => d.parameters.length) = some 1 := by decide +kernel
set_option maxHeartbeats 4000000 in
set_option maxRecDepth 100000 in
theorem ctX3_isKind {l : Launch} {D : va_G} {cI cJ cQ : ClassId}   (v0 : Int32) {res : Int32} (h : fX3_isKind v0 = some res) : CtI l D cI cJ cQ yX3_isKind wsX3_isKind rmX3_isKind [.int v0] ([]) res ([]) := by
  refine ctI_of .boolean (cc := cX3_isKind) (maxL := 1) (by decide) rfl (Nat.le_of_ble_eq_true rfl) ?_
  intro p e s m args below meth c A Q ls F hK hA RET hH hl
  obtain ⟨hx, hb, hml, hown, hts⟩ := id F
  have hl : lv_has ls 1 [(0, .int v0)] := hl
  have hf : wpO (fX3_isKind v0) (fun v => v = res) := ⟨_, h, rfl⟩
  obtain ⟨H, eH⟩ : ∃ H, H = s.heap := ⟨_, rfl⟩
  obtain ⟨locs, eL⟩ : ∃ locs : List Loc, locs = [] := ⟨_, rfl⟩
  have hH : Hs D A s.heap ([]) H locs := by rw [eH, eL]; exact hH
  rw [← eL]
  suffices hgo : W p l e rmX3_isKind s m args below meth c H locs 0 0 Q (F0 m 0 ls []) by rw [eH] at hgo; exact hgo
  clear eH eL
  refine lv_iload_n hx hb dX3_isKind_0 rfl (lv_at hl 0 rfl) ?_
  refine lv_iconst (v := 0) hx hb dX3_isKind_1 (by decide) ?_
  refine lv_iconst (v := 5) hx hb dX3_isKind_2 (by decide) ?_
  obtain ⟨x1, hcl, hf⟩ := wp_b hf
  refine k_Si F hK hH hA hl.1 ⟨Nat.zero_le _, Nat.zero_le _⟩ [] [.int v0, .int 0, .int 5] [] (ctX3_isWithin v0 0 5 hcl) (va_cwS 3 hts gX3_isKind_X3_isWithin rfl rfl rfl hdSX3_isWithin ⟨Nat.le_of_ble_eq_true rfl, Nat.le_of_ble_eq_true rfl⟩) dX3_isKind_3 rfl rfl (Nat.le_of_ble_eq_true rfl) rfl rfl (by decide) (fun H locs hH => ?_)
  have hH : Hs D A s.heap ([]) H locs := hH
  obtain ⟨z2, hbo, hf⟩ := wp_b hf
  obtain ⟨hbe, hnb⟩ := bo_narrow hbo
  rw [hbe] at hf
  have hrs := wp_s hf
  subst hrs
  exact RET H locs ls 6 dX3_isKind_6 hnb hH

def fX3_isEither (v0 : Int32) : Option (Int32) :=
  Option.bind (fX3_isWithin v0 0 1) fun x1 =>
  (bo x1).bind fun z2 =>
  some z2

def rmX3_isEither : Room := { frames := 1, cells := 0, slots := 0, locals := 22 }
theorem hdSX3_isEither : yX3_isEither.cls ≠ "java/lang/invoke/MethodHandle" ∧ yX3_isEither.cls ≠ "java/lang/invoke/VarHandle" ∧ (parseMethodDescriptor yX3_isEither.desc).map (fun d => d.parameters.length) = some 1 := by decide +kernel
set_option maxHeartbeats 4000000 in
set_option maxRecDepth 100000 in
theorem ctX3_isEither {l : Launch} {D : va_G} {cI cJ cQ : ClassId}   (v0 : Int32) {res : Int32} (h : fX3_isEither v0 = some res) : CtI l D cI cJ cQ yX3_isEither wsX3_isEither rmX3_isEither [.int v0] ([]) res ([]) := by
  refine ctI_of .boolean (cc := cX3_isEither) (maxL := 1) (by decide) rfl (Nat.le_of_ble_eq_true rfl) ?_
  intro p e s m args below meth c A Q ls F hK hA RET hH hl
  obtain ⟨hx, hb, hml, hown, hts⟩ := id F
  have hl : lv_has ls 1 [(0, .int v0)] := hl
  have hf : wpO (fX3_isEither v0) (fun v => v = res) := ⟨_, h, rfl⟩
  obtain ⟨H, eH⟩ : ∃ H, H = s.heap := ⟨_, rfl⟩
  obtain ⟨locs, eL⟩ : ∃ locs : List Loc, locs = [] := ⟨_, rfl⟩
  have hH : Hs D A s.heap ([]) H locs := by rw [eH, eL]; exact hH
  rw [← eL]
  suffices hgo : W p l e rmX3_isEither s m args below meth c H locs 0 0 Q (F0 m 0 ls []) by rw [eH] at hgo; exact hgo
  clear eH eL
  refine lv_iload_n hx hb dX3_isEither_0 rfl (lv_at hl 0 rfl) ?_
  refine lv_iconst (v := 0) hx hb dX3_isEither_1 (by decide) ?_
  refine lv_iconst (v := 1) hx hb dX3_isEither_2 (by decide) ?_
  obtain ⟨x1, hcl, hf⟩ := wp_b hf
  refine k_Si F hK hH hA hl.1 ⟨Nat.zero_le _, Nat.zero_le _⟩ [] [.int v0, .int 0, .int 1] [] (ctX3_isWithin v0 0 1 hcl) (va_cwS 3 hts gX3_isEither_X3_isWithin rfl rfl rfl hdSX3_isWithin ⟨Nat.le_of_ble_eq_true rfl, Nat.le_of_ble_eq_true rfl⟩) dX3_isEither_3 rfl rfl (Nat.le_of_ble_eq_true rfl) rfl rfl (by decide) (fun H locs hH => ?_)
  have hH : Hs D A s.heap ([]) H locs := hH
  obtain ⟨z2, hbo, hf⟩ := wp_b hf
  obtain ⟨hbe, hnb⟩ := bo_narrow hbo
  rw [hbe] at hf
  have hrs := wp_s hf
  subst hrs
  exact RET H locs ls 6 dX3_isEither_6 hnb hH

def fX3_code (v1 : Int32) (v2 : Int32) (yn : LandT) (ye : (Nat → Int32)) : Option (Int32 × (Nat → Int32)) :=
  Option.bind (fX3_isKind v1) fun x1 =>
  if x1 = 0 then
    Option.bind (fX3_refuse (-2) ye) fun x2 =>
    some (x2.1, x2.2)
  else
    Option.bind (fX3_isEither v2) fun x3 =>
    if x3 = 0 then
      Option.bind (fX3_refuse (-2) ye) fun x4 =>
      some (x4.1, x4.2)
    else
      if v2 = 0 then
        if ob v1 6 then none else
        some ((gV yn) (Int32.toNatClampNeg v1), ye)
      else
        if ob v1 6 then none else
        some ((gQ yn) (Int32.toNatClampNeg v1), ye)

def rmX3_code : Room := { frames := 2, cells := 0, slots := 0, locals := 42 }
theorem mbX3_code_f10 : Cond.fieldLink RX3 10 (TX3 0).1 (TX3 0).2.1 (TX3 0).2.2.1 ∈ wsX3_code := by decide +kernel
theorem inX3_code_X3 : ∀ w ∈ wsX30, w ∈ wsX3_code := by decide +kernel
theorem mbX3_code_f130 : Cond.fieldLink RX3 130 (TX0 6).1 (TX0 6).2.1 (TX0 6).2.2.1 ∈ wsX3_code := by decide +kernel
theorem inX3_code_X0 : ∀ w ∈ wsX00, w ∈ wsX3_code := by decide +kernel
theorem mbX3_code_f127 : Cond.fieldLink RX3 127 (TX0 5).1 (TX0 5).2.1 (TX0 5).2.2.1 ∈ wsX3_code := by decide +kernel
theorem hdVX3_code : yX3_code.cls = RX3 ∧ yX3_code.cls ≠ "java/lang/invoke/MethodHandle" ∧ yX3_code.cls ≠ "java/lang/invoke/VarHandle" ∧ (parseMethodDescriptor yX3_code.desc).map (fun d => d.parameters.length) = some 2 := by decide +kernel
set_option maxHeartbeats 4000000 in
set_option maxRecDepth 100000 in
theorem ctX3_code {l : Launch} {D : va_G} {cI cJ cQ : ClassId} (ad : Nat → Nat) (yn : LandT) (ym : LandT) (yk : LandT) (yl : (Nat → Int32)) (yt : Int32) (yd : Int32) (yu : (Nat → Int32)) (ye : (Nat → Int32)) (yv : (Nat → Int32)) (yo : (Nat → Int64)) (y0 : (Nat → Int32)) (y1 : (Nat → Int32)) (yc : Int32) (yh : Int32) (v1 : Int32) (v2 : Int32) {res : Int32 × (Nat → Int32)} (h : fX3_code v1 v2 yn ye = some res) : CtI l D cI cJ cQ yX3_code wsX3_code rmX3_code [.ref (ad 0), .int v1, .int v2] (wMn cI cJ cQ ad yn ym yk yl yt yd yu ye yv yo y0 y1 yc yh) res.1 (wMn cI cJ cQ ad yn ym yk yl yt yd yu res.2 yv yo y0 y1 yc yh) := by
  refine ctI_of .int (cc := cX3_code) (maxL := 3) (by decide) rfl (Nat.le_of_ble_eq_true rfl) ?_
  intro p e s m args below meth c A Q ls F hK hA RET hH hl
  obtain ⟨hx, hb, hml, hown, hts⟩ := id F
  have hl : lv_has ls 3 [(0, .ref (ad 0)), (1, .int v1), (2, .int v2)] := hl
  have hf : wpO (fX3_code v1 v2 yn ye) (fun v => v = res) := ⟨_, h, rfl⟩
  obtain ⟨H, eH⟩ : ∃ H, H = s.heap := ⟨_, rfl⟩
  obtain ⟨locs, eL⟩ : ∃ locs : List Loc, locs = [] := ⟨_, rfl⟩
  have hH : Hs D A s.heap (wMn cI cJ cQ ad yn ym yk yl yt yd yu ye yv yo y0 y1 yc yh) H locs := by rw [eH, eL]; exact hH
  rw [← eL]
  suffices hgo : W p l e rmX3_code s m args below meth c H locs 0 0 Q (F0 m 0 ls []) by rw [eH] at hgo; exact hgo
  clear eH eL
  refine lv_iload_n hx hb dX3_code_0 rfl (lv_at hl 1 rfl) ?_
  obtain ⟨x1, hcl, hf⟩ := wp_b hf
  refine k_Si F hK hH hA hl.1 ⟨Nat.zero_le _, Nat.zero_le _⟩ [] [.int v1] [] (ctX3_isKind v1 hcl) (va_cwS 1 hts gX3_code_X3_isKind rfl rfl rfl hdSX3_isKind ⟨Nat.le_of_ble_eq_true rfl, Nat.le_of_ble_eq_true rfl⟩) dX3_code_1 rfl rfl (Nat.le_of_ble_eq_true rfl) rfl rfl (by decide) (fun H locs hH => ?_)
  have hH : Hs D A s.heap (wMn cI cJ cQ ad yn ym yk yl yt yd yu ye yv yo y0 y1 yc yh) H locs := hH
  refine lv_if_eq (tgt := 14) hx hb dX3_code_4 (by decide) (fun hc => ?_) (fun hc => ?_)
  · have hf := wp_t hc hf
    refine lv_aload_n hx hb dX3_code_14 rfl (lv_at hl 0 rfl) ?_
    refine lv_bipush (v := (-2)) hx hb dX3_code_15 (by decide) ?_
    obtain ⟨x2, hcl, hf⟩ := wp_b hf
    refine k_Vi0 F hK hH hA hl.1 ⟨Nat.zero_le _, Nat.zero_le _⟩ [.int (-2)] [] (ctX3_refuse ad yn ym yk yl yt yd yu ye yv yo y0 y1 yc yh (-2) hcl) (cwV 1 hts gX3_code_X3_refuse rfl rfl rfl hdVX3_refuse ⟨Nat.le_of_ble_eq_true rfl, Nat.le_of_ble_eq_true rfl⟩) dX3_code_17 0 rfl rfl rfl rfl rfl (Nat.le_of_ble_eq_true rfl) rfl (fun H locs hH => ?_)
    have hH : Hs D A s.heap (wMn cI cJ cQ ad yn ym yk yl yt yd yu x2.2 yv yo y0 y1 yc yh) H locs := hH
    refine W.eq (g2 := F0 m 20 ls [.int x2.1]) rfl ?_
    have hrs := wp_s hf
    subst hrs
    exact RET H locs ls 20 dX3_code_20 rfl hH
  · have hf := wp_f hc hf
    refine lv_iload_n hx hb dX3_code_7 rfl (lv_at hl 2 rfl) ?_
    obtain ⟨x3, hcl, hf⟩ := wp_b hf
    refine k_Si F hK hH hA hl.1 ⟨Nat.zero_le _, Nat.zero_le _⟩ [] [.int v2] [] (ctX3_isEither v2 hcl) (va_cwS 1 hts gX3_code_X3_isEither rfl rfl rfl hdSX3_isEither ⟨Nat.le_of_ble_eq_true rfl, Nat.le_of_ble_eq_true rfl⟩) dX3_code_8 rfl rfl (Nat.le_of_ble_eq_true rfl) rfl rfl (by decide) (fun H locs hH => ?_)
    have hH : Hs D A s.heap (wMn cI cJ cQ ad yn ym yk yl yt yd yu ye yv yo y0 y1 yc yh) H locs := hH
    refine lv_if_ne (tgt := 21) hx hb dX3_code_11 (by decide) (fun hc => ?_) (fun hc => ?_)
    · have hf := wp_f hc hf
      refine lv_iload_n hx hb dX3_code_21 rfl (lv_at hl 2 rfl) ?_
      refine lv_if_ne (tgt := 37) hx hb dX3_code_22 (by decide) (fun hc => ?_) (fun hc => ?_)
      · have hf := wp_f hc hf
        refine lv_aload_n hx hb dX3_code_37 rfl (lv_at hl 0 rfl) ?_
        refine k_get (v := .ref (ad 1)) F hK hH 0 inX3_code_X3 0 mbX3_code_f10 dX3_code_38 rfl rfl (by decide) rfl ?_
        refine k_get (v := .ref (ad 8)) F hK hH 1 inX3_code_X0 6 mbX3_code_f130 dX3_code_41 rfl rfl (by decide) rfl ?_
        refine lv_iload_n hx hb dX3_code_44 rfl (lv_at hl 1 rfl) ?_
        obtain ⟨hi, hf⟩ := wp_n hf
        refine k_iald (f := gQ yn) (n := 6) F hK hH 8 dX3_code_45 hi rfl ?_
        have hrs := wp_s hf
        subst hrs
        exact RET H locs ls 46 dX3_code_46 rfl hH
      · have hf := wp_t hc hf
        refine lv_aload_n hx hb dX3_code_25 rfl (lv_at hl 0 rfl) ?_
        refine k_get (v := .ref (ad 1)) F hK hH 0 inX3_code_X3 0 mbX3_code_f10 dX3_code_26 rfl rfl (by decide) rfl ?_
        refine k_get (v := .ref (ad 7)) F hK hH 1 inX3_code_X0 5 mbX3_code_f127 dX3_code_29 rfl rfl (by decide) rfl ?_
        refine lv_iload_n hx hb dX3_code_32 rfl (lv_at hl 1 rfl) ?_
        obtain ⟨hi, hf⟩ := wp_n hf
        refine k_iald (f := gV yn) (n := 6) F hK hH 7 dX3_code_33 hi rfl ?_
        refine lv_goto (tgt := 46) hx hb dX3_code_34 (by decide) ?_
        have hrs := wp_s hf
        subst hrs
        exact RET H locs ls 46 dX3_code_46 rfl hH
    · have hf := wp_t hc hf
      refine lv_aload_n hx hb dX3_code_14 rfl (lv_at hl 0 rfl) ?_
      refine lv_bipush (v := (-2)) hx hb dX3_code_15 (by decide) ?_
      obtain ⟨x4, hcl, hf⟩ := wp_b hf
      refine k_Vi0 F hK hH hA hl.1 ⟨Nat.zero_le _, Nat.zero_le _⟩ [.int (-2)] [] (ctX3_refuse ad yn ym yk yl yt yd yu ye yv yo y0 y1 yc yh (-2) hcl) (cwV 1 hts gX3_code_X3_refuse rfl rfl rfl hdVX3_refuse ⟨Nat.le_of_ble_eq_true rfl, Nat.le_of_ble_eq_true rfl⟩) dX3_code_17 0 rfl rfl rfl rfl rfl (Nat.le_of_ble_eq_true rfl) rfl (fun H locs hH => ?_)
      have hH : Hs D A s.heap (wMn cI cJ cQ ad yn ym yk yl yt yd yu x4.2 yv yo y0 y1 yc yh) H locs := hH
      refine W.eq (g2 := F0 m 20 ls [.int x4.1]) rfl ?_
      have hrs := wp_s hf
      subst hrs
      exact RET H locs ls 20 dX3_code_20 rfl hH

def fX3_heaps (v1 : Int32) (v2 : Int32) (yn : LandT) (ye : (Nat → Int32)) : Option (Int32 × LandT × (Nat → Int32)) :=
  Option.bind (fX3_isCell v1) fun x1 =>
  if x1 = 0 then
    Option.bind (fX3_refuse (-1) ye) fun x6 =>
    some (x6.1, yn, x6.2)
  else
    Option.bind (fX3_isWithin v2 0 9) fun x2 =>
    if x2 = 0 then
      Option.bind (if (0 : Int32) ≤ v2 then
          some (-6)
        else
          some (-4)) fun (t4 : Int32) =>
      Option.bind (fX3_refuse t4 ye) fun x5 =>
      some (x5.1, yn, x5.2)
    else
      if ob v1 16 then none else
      Option.bind (fX0_setHeight v1 v2 yn) fun x3 =>
      some ((gH yn) (Int32.toNatClampNeg v1), x3, ye)

def rmX3_heaps : Room := { frames := 2, cells := 0, slots := 0, locals := 44 }
theorem mbX3_heaps_f10 : Cond.fieldLink RX3 10 (TX3 0).1 (TX3 0).2.1 (TX3 0).2.2.1 ∈ wsX3_heaps := by decide +kernel
theorem inX3_heaps_X3 : ∀ w ∈ wsX30, w ∈ wsX3_heaps := by decide +kernel
theorem mbX3_heaps_f118 : Cond.fieldLink RX3 118 (TX0 0).1 (TX0 0).2.1 (TX0 0).2.2.1 ∈ wsX3_heaps := by decide +kernel
theorem inX3_heaps_X0 : ∀ w ∈ wsX00, w ∈ wsX3_heaps := by decide +kernel
theorem hdVX3_heaps : yX3_heaps.cls = RX3 ∧ yX3_heaps.cls ≠ "java/lang/invoke/MethodHandle" ∧ yX3_heaps.cls ≠ "java/lang/invoke/VarHandle" ∧ (parseMethodDescriptor yX3_heaps.desc).map (fun d => d.parameters.length) = some 2 := by decide +kernel
set_option maxHeartbeats 4000000 in
set_option maxRecDepth 100000 in
theorem ctX3_heaps {l : Launch} {D : va_G} {cI cJ cQ : ClassId} (ad : Nat → Nat) (yn : LandT) (ym : LandT) (yk : LandT) (yl : (Nat → Int32)) (yt : Int32) (yd : Int32) (yu : (Nat → Int32)) (ye : (Nat → Int32)) (yv : (Nat → Int32)) (yo : (Nat → Int64)) (y0 : (Nat → Int32)) (y1 : (Nat → Int32)) (yc : Int32) (yh : Int32) (v1 : Int32) (v2 : Int32) {res : Int32 × LandT × (Nat → Int32)} (h : fX3_heaps v1 v2 yn ye = some res) : CtI l D cI cJ cQ yX3_heaps wsX3_heaps rmX3_heaps [.ref (ad 0), .int v1, .int v2] (wMn cI cJ cQ ad yn ym yk yl yt yd yu ye yv yo y0 y1 yc yh) res.1 (wMn cI cJ cQ ad res.2.1 ym yk yl yt yd yu res.2.2 yv yo y0 y1 yc yh) := by
  refine ctI_of .int (cc := cX3_heaps) (maxL := 4) (by decide) rfl (Nat.le_of_ble_eq_true rfl) ?_
  intro p e s m args below meth c A Q ls F hK hA RET hH hl
  obtain ⟨hx, hb, hml, hown, hts⟩ := id F
  have hl : lv_has ls 4 [(0, .ref (ad 0)), (1, .int v1), (2, .int v2)] := hl
  have hf : wpO (fX3_heaps v1 v2 yn ye) (fun v => v = res) := ⟨_, h, rfl⟩
  obtain ⟨H, eH⟩ : ∃ H, H = s.heap := ⟨_, rfl⟩
  obtain ⟨locs, eL⟩ : ∃ locs : List Loc, locs = [] := ⟨_, rfl⟩
  have hH : Hs D A s.heap (wMn cI cJ cQ ad yn ym yk yl yt yd yu ye yv yo y0 y1 yc yh) H locs := by rw [eH, eL]; exact hH
  rw [← eL]
  suffices hgo : W p l e rmX3_heaps s m args below meth c H locs 0 0 Q (F0 m 0 ls []) by rw [eH] at hgo; exact hgo
  clear eH eL
  refine lv_iload_n hx hb dX3_heaps_0 rfl (lv_at hl 1 rfl) ?_
  obtain ⟨x1, hcl, hf⟩ := wp_b hf
  refine k_Si F hK hH hA hl.1 ⟨Nat.zero_le _, Nat.zero_le _⟩ [] [.int v1] [] (ctX3_isCell v1 hcl) (va_cwS 1 hts gX3_heaps_X3_isCell rfl rfl rfl hdSX3_isCell ⟨Nat.le_of_ble_eq_true rfl, Nat.le_of_ble_eq_true rfl⟩) dX3_heaps_1 rfl rfl (Nat.le_of_ble_eq_true rfl) rfl rfl (by decide) (fun H locs hH => ?_)
  have hH : Hs D A s.heap (wMn cI cJ cQ ad yn ym yk yl yt yd yu ye yv yo y0 y1 yc yh) H locs := hH
  refine lv_if_ne (tgt := 13) hx hb dX3_heaps_4 (by decide) (fun hc => ?_) (fun hc => ?_)
  · have hf := wp_f hc hf
    refine lv_iload_n hx hb dX3_heaps_13 rfl (lv_at hl 2 rfl) ?_
    refine lv_iconst (v := 0) hx hb dX3_heaps_14 (by decide) ?_
    refine lv_bipush (v := 9) hx hb dX3_heaps_15 (by decide) ?_
    obtain ⟨x2, hcl, hf⟩ := wp_b hf
    refine k_Si F hK hH hA hl.1 ⟨Nat.zero_le _, Nat.zero_le _⟩ [] [.int v2, .int 0, .int 9] [] (ctX3_isWithin v2 0 9 hcl) (va_cwS 3 hts gX3_heaps_X3_isWithin rfl rfl rfl hdSX3_isWithin ⟨Nat.le_of_ble_eq_true rfl, Nat.le_of_ble_eq_true rfl⟩) dX3_heaps_17 rfl rfl (Nat.le_of_ble_eq_true rfl) rfl rfl (by decide) (fun H locs hH => ?_)
    have hH : Hs D A s.heap (wMn cI cJ cQ ad yn ym yk yl yt yd yu ye yv yo y0 y1 yc yh) H locs := hH
    refine lv_if_ne (tgt := 39) hx hb dX3_heaps_20 (by decide) (fun hc => ?_) (fun hc => ?_)
    · have hf := wp_f hc hf
      refine lv_aload_n hx hb dX3_heaps_39 rfl (lv_at hl 0 rfl) ?_
      refine k_get (v := .ref (ad 1)) F hK hH 0 inX3_heaps_X3 0 mbX3_heaps_f10 dX3_heaps_40 rfl rfl (by decide) rfl ?_
      refine k_get (v := .ref (ad 2)) F hK hH 1 inX3_heaps_X0 0 mbX3_heaps_f118 dX3_heaps_43 rfl rfl (by decide) rfl ?_
      refine lv_iload_n hx hb dX3_heaps_46 rfl (lv_at hl 1 rfl) ?_
      obtain ⟨hi, hf⟩ := wp_n hf
      refine k_iald (f := gH yn) (n := 16) F hK hH 2 dX3_heaps_47 hi rfl ?_
      refine lv_istore_n (lv' := [(3, .int ((gH yn) (Int32.toNatClampNeg v1))), (0, .ref (ad 0)), (1, .int v1), (2, .int v2)]) hx hb dX3_heaps_48 rfl hl (by decide) rfl (fun ls hl => ?_)
      refine lv_aload_n hx hb dX3_heaps_49 rfl (lv_at hl 1 rfl) ?_
      refine k_get (v := .ref (ad 1)) F hK hH 0 inX3_heaps_X3 0 mbX3_heaps_f10 dX3_heaps_50 rfl rfl (by decide) rfl ?_
      refine lv_iload_n hx hb dX3_heaps_53 rfl (lv_at hl 2 rfl) ?_
      refine lv_iload_n hx hb dX3_heaps_54 rfl (lv_at hl 3 rfl) ?_
      obtain ⟨x3, hcl, hf⟩ := wp_b hf
      refine k_Vv F hK hH hA hl.1 ⟨Nat.zero_le _, Nat.zero_le _⟩ [1, 2, 3, 4, 5, 6, 7, 8] [.int v1, .int v2] [] (ctX0_setHeight (fun k => ad (1 + k)) yn v1 v2 hcl) (cwV 2 hts gX3_heaps_X0_setHeight rfl rfl rfl hdVX0_setHeight ⟨Nat.le_of_ble_eq_true rfl, Nat.le_of_ble_eq_true rfl⟩) dX3_heaps_55 1 rfl rfl rfl rfl rfl (Nat.le_of_ble_eq_true rfl) rfl rfl (by decide) (fun H locs hH => ?_)
      have hH : Hs D A s.heap (wMn cI cJ cQ ad x3 ym yk yl yt yd yu ye yv yo y0 y1 yc yh) H locs := hH
      refine lv_iload_n hx hb dX3_heaps_58 rfl (lv_at hl 0 rfl) ?_
      have hrs := wp_s hf
      subst hrs
      exact RET H locs ls 59 dX3_heaps_59 rfl hH
    · have hf := wp_t hc hf
      refine lv_aload_n hx hb dX3_heaps_23 rfl (lv_at hl 0 rfl) ?_
      refine lv_iload_n hx hb dX3_heaps_24 rfl (lv_at hl 2 rfl) ?_
      refine join_ (α := Int32) (fun Φ => ∀ (t4 : Int32) (H : Heap) (locs : List Loc) (ls : Array Slot), Φ t4 → Hs D A s.heap (wMn cI cJ cQ ad yn ym yk yl yt yd yu ye yv yo y0 y1 yc yh) H locs → lv_has ls 4 [] → W p l e rmX3_heaps s m args below meth c H locs 0 0 Q (F0 m 35 ls [.int t4, .ref (ad 0)])) (wp_bb hf) ?_ ?_
      · intro t4 H locs ls hf hH hl
        obtain ⟨x5, hcl, hf⟩ := wp_b hf
        refine k_Vi0 F hK hH hA hl.1 ⟨Nat.zero_le _, Nat.zero_le _⟩ [.int t4] [] (ctX3_refuse ad yn ym yk yl yt yd yu ye yv yo y0 y1 yc yh t4 hcl) (cwV 1 hts gX3_heaps_X3_refuse rfl rfl rfl hdVX3_refuse ⟨Nat.le_of_ble_eq_true rfl, Nat.le_of_ble_eq_true rfl⟩) dX3_heaps_35 0 rfl rfl rfl rfl rfl (Nat.le_of_ble_eq_true rfl) rfl (fun H locs hH => ?_)
        have hH : Hs D A s.heap (wMn cI cJ cQ ad yn ym yk yl yt yd yu x5.2 yv yo y0 y1 yc yh) H locs := hH
        refine W.eq (g2 := F0 m 38 ls [.int x5.1]) rfl ?_
        have hrs := wp_s hf
        subst hrs
        exact RET H locs ls 38 dX3_heaps_38 rfl hH
      · intro Φ JJ hf
        refine lv_if_ge (tgt := 33) hx hb dX3_heaps_25 (by decide) (fun hc => ?_) (fun hc => ?_)
        · have hf := wp_t hc hf
          refine lv_bipush (v := (-6)) hx hb dX3_heaps_33 (by decide) ?_
          have hw := wp_s hf
          exact JJ _ _ _ _ hw hH (lv_sub hl [] rfl)
        · have hf := wp_f hc hf
          refine lv_bipush (v := (-4)) hx hb dX3_heaps_28 (by decide) ?_
          refine lv_goto (tgt := 35) hx hb dX3_heaps_30 (by decide) ?_
          have hw := wp_s hf
          exact JJ _ _ _ _ hw hH (lv_sub hl [] rfl)
  · have hf := wp_t hc hf
    refine lv_aload_n hx hb dX3_heaps_7 rfl (lv_at hl 0 rfl) ?_
    refine lv_iconst (v := (-1)) hx hb dX3_heaps_8 (by decide) ?_
    obtain ⟨x6, hcl, hf⟩ := wp_b hf
    refine k_Vi0 F hK hH hA hl.1 ⟨Nat.zero_le _, Nat.zero_le _⟩ [.int (-1)] [] (ctX3_refuse ad yn ym yk yl yt yd yu ye yv yo y0 y1 yc yh (-1) hcl) (cwV 1 hts gX3_heaps_X3_refuse rfl rfl rfl hdVX3_refuse ⟨Nat.le_of_ble_eq_true rfl, Nat.le_of_ble_eq_true rfl⟩) dX3_heaps_9 0 rfl rfl rfl rfl rfl (Nat.le_of_ble_eq_true rfl) rfl (fun H locs hH => ?_)
    have hH : Hs D A s.heap (wMn cI cJ cQ ad yn ym yk yl yt yd yu x6.2 yv yo y0 y1 yc yh) H locs := hH
    refine W.eq (g2 := F0 m 12 ls [.int x6.1]) rfl ?_
    have hrs := wp_s hf
    subst hrs
    exact RET H locs ls 12 dX3_heaps_12 rfl hH

