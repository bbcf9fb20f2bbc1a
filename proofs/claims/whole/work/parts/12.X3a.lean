def fX3_refuse (v1 : Int32) (ye : (Nat → Int32)) : Option (Int32 × (Nat → Int32)) :=
  if ob (-v1) 7 then none else
  if ob (-v1) 7 then none else
  some (v1, upd ye (Int32.toNatClampNeg (-v1)) ((ye (Int32.toNatClampNeg (-v1))) + 1))

def rmX3_refuse : Room := { frames := 0, cells := 0, slots := 0, locals := 0 }
theorem mbX3_refuse_f40 : Cond.fieldLink RX3 40 (TX3 6).1 (TX3 6).2.1 (TX3 6).2.2.1 ∈ wsX3_refuse := by decide +kernel
theorem inX3_refuse_X3 : ∀ w ∈ wsX30, w ∈ wsX3_refuse := by decide +kernel
theorem hdVX3_refuse : yX3_refuse.cls = RX3 ∧ yX3_refuse.cls ≠ "java/lang/invoke/MethodHandle" ∧ yX3_refuse.cls ≠ "java/lang/invoke/VarHandle" ∧ (parseMethodDescriptor yX3_refuse.desc).map (fun d => d.parameters.length) = some 1 := by decide +kernel
set_option maxHeartbeats 4000000 in
set_option maxRecDepth 100000 in
theorem ctX3_refuse {l : Launch} {D : va_G} {cI cJ cQ : ClassId} (ad : Nat → Nat) (yn : LandT) (ym : LandT) (yk : LandT) (yl : (Nat → Int32)) (yt : Int32) (yd : Int32) (yu : (Nat → Int32)) (ye : (Nat → Int32)) (yv : (Nat → Int32)) (yo : (Nat → Int64)) (y0 : (Nat → Int32)) (y1 : (Nat → Int32)) (yc : Int32) (yh : Int32) (v1 : Int32) {res : Int32 × (Nat → Int32)} (h : fX3_refuse v1 ye = some res) : CtI l D cI cJ cQ yX3_refuse wsX3_refuse rmX3_refuse [.ref (ad 0), .int v1] (wMn cI cJ cQ ad yn ym yk yl yt yd yu ye yv yo y0 y1 yc yh) res.1 (wMn cI cJ cQ ad yn ym yk yl yt yd yu res.2 yv yo y0 y1 yc yh) := by
  refine ctI_of .int (cc := cX3_refuse) (maxL := 2) (by decide) rfl (Nat.le_of_ble_eq_true rfl) ?_
  intro p e s m args below meth c A Q ls F hK hA RET hH hl
  obtain ⟨hx, hb, hml, hown, hts⟩ := id F
  have hl : lv_has ls 2 [(0, .ref (ad 0)), (1, .int v1)] := hl
  have hf : wpO (fX3_refuse v1 ye) (fun v => v = res) := ⟨_, h, rfl⟩
  obtain ⟨H, eH⟩ : ∃ H, H = s.heap := ⟨_, rfl⟩
  obtain ⟨locs, eL⟩ : ∃ locs : List Loc, locs = [] := ⟨_, rfl⟩
  have hH : Hs D A s.heap (wMn cI cJ cQ ad yn ym yk yl yt yd yu ye yv yo y0 y1 yc yh) H locs := by rw [eH, eL]; exact hH
  rw [← eL]
  suffices hgo : W p l e rmX3_refuse s m args below meth c H locs 0 0 Q (F0 m 0 ls []) by rw [eH] at hgo; exact hgo
  clear eH eL
  refine lv_aload_n hx hb dX3_refuse_0 rfl (lv_at hl 0 rfl) ?_
  refine k_get (v := .ref (ad 29)) F hK hH 0 inX3_refuse_X3 6 mbX3_refuse_f40 dX3_refuse_1 rfl rfl (by decide) rfl ?_
  refine lv_iload_n hx hb dX3_refuse_4 rfl (lv_at hl 1 rfl) ?_
  refine lv_ineg hx hb dX3_refuse_5 ?_
  refine lv_dup2_11 hx hb dX3_refuse_6 rfl rfl ?_
  obtain ⟨hi, hf⟩ := wp_n hf
  refine k_iald (f := ye) (n := 7) F hK hH 29 dX3_refuse_7 hi rfl ?_
  refine lv_iconst (v := 1) hx hb dX3_refuse_8 (by decide) ?_
  refine lv_iadd hx hb dX3_refuse_9 ?_
  obtain ⟨hi, hf⟩ := wp_n hf
  refine k_iast (f := ye) (n := 7) F hK hH 29 dX3_refuse_10 hi rfl (fun H locs hH => ?_)
  have hH : Hs D A s.heap (wMn cI cJ cQ ad yn ym yk yl yt yd yu (upd ye (Int32.toNatClampNeg (-v1)) ((ye (Int32.toNatClampNeg (-v1))) + 1)) yv yo y0 y1 yc yh) H locs := hH
  refine lv_iload_n hx hb dX3_refuse_11 rfl (lv_at hl 1 rfl) ?_
  have hrs := wp_s hf
  subst hrs
  exact RET H locs ls 12 dX3_refuse_12 rfl hH

def fX1_isFull (yt : Int32) : Option (Int32) :=
  if yt < 96 then
    some 0
  else
    some 1

def rmX1_isFull : Room := { frames := 0, cells := 0, slots := 0, locals := 0 }
theorem mbX1_isFull_f15 : Cond.fieldLink RX1 15 (TX1 1).1 (TX1 1).2.1 (TX1 1).2.2.1 ∈ wsX1_isFull := by decide +kernel
theorem inX1_isFull_X1 : ∀ w ∈ wsX10, w ∈ wsX1_isFull := by decide +kernel
theorem hdVX1_isFull : yX1_isFull.cls = RX1 ∧ yX1_isFull.cls ≠ "java/lang/invoke/MethodHandle" ∧ yX1_isFull.cls ≠ "java/lang/invoke/VarHandle" ∧ (parseMethodDescriptor yX1_isFull.desc).map (fun d => d.parameters.length) = some 0 := by decide +kernel
set_option maxHeartbeats 4000000 in
set_option maxRecDepth 100000 in
theorem ctX1_isFull {l : Launch} {D : va_G} {cI cJ cQ : ClassId} (ad : Nat → Nat) (yl : (Nat → Int32)) (yt : Int32)  {res : Int32} (h : fX1_isFull yt = some res) : CtI l D cI cJ cQ yX1_isFull wsX1_isFull rmX1_isFull [.ref (ad 0)] (wLt cI ad yl yt) res (wLt cI ad yl yt) := by
  refine ctI_of .boolean (cc := cX1_isFull) (maxL := 1) (by decide) rfl (Nat.le_of_ble_eq_true rfl) ?_
  intro p e s m args below meth c A Q ls F hK hA RET hH hl
  obtain ⟨hx, hb, hml, hown, hts⟩ := id F
  have hl : lv_has ls 1 [(0, .ref (ad 0))] := hl
  have hf : wpO (fX1_isFull yt) (fun v => v = res) := ⟨_, h, rfl⟩
  obtain ⟨H, eH⟩ : ∃ H, H = s.heap := ⟨_, rfl⟩
  obtain ⟨locs, eL⟩ : ∃ locs : List Loc, locs = [] := ⟨_, rfl⟩
  have hH : Hs D A s.heap (wLt cI ad yl yt) H locs := by rw [eH, eL]; exact hH
  rw [← eL]
  suffices hgo : W p l e rmX1_isFull s m args below meth c H locs 0 0 Q (F0 m 0 ls []) by rw [eH] at hgo; exact hgo
  clear eH eL
  refine lv_aload_n hx hb dX1_isFull_0 rfl (lv_at hl 0 rfl) ?_
  refine k_get (v := .int yt) F hK hH 0 inX1_isFull_X1 1 mbX1_isFull_f15 dX1_isFull_1 rfl rfl (by decide) rfl ?_
  refine lv_bipush (v := 96) hx hb dX1_isFull_4 (by decide) ?_
  refine lv_icmp_lt (tgt := 13) hx hb dX1_isFull_6 (by decide) (fun hc => ?_) (fun hc => ?_)
  · have hf := wp_t hc hf
    refine lv_iconst (v := 0) hx hb dX1_isFull_13 (by decide) ?_
    have hrs := wp_s hf
    subst hrs
    exact RET H locs ls 14 dX1_isFull_14 (by show narrow .boolean (.int 0) = .int 0; rfl) hH
  · have hf := wp_f hc hf
    refine lv_iconst (v := 1) hx hb dX1_isFull_9 (by decide) ?_
    refine lv_goto (tgt := 14) hx hb dX1_isFull_10 (by decide) ?_
    have hrs := wp_s hf
    subst hrs
    exact RET H locs ls 14 dX1_isFull_14 (by show narrow .boolean (.int 1) = .int 1; rfl) hH

def fX1_add (v1 : Int32) (yl : (Nat → Int32)) (yt : Int32) : Option (Int32 × (Nat → Int32) × Int32) :=
  Option.bind (fX1_isFull yt) fun x1 =>
  if x1 = 0 then
    if ob yt 96 then none else
    some (yt + 1, upd yl (Int32.toNatClampNeg yt) v1, yt + 1)
  else
    some (yt, yl, yt)

def rmX1_add : Room := { frames := 1, cells := 0, slots := 0, locals := 20 }
theorem mbX1_add_f15 : Cond.fieldLink RX1 15 (TX1 1).1 (TX1 1).2.1 (TX1 1).2.2.1 ∈ wsX1_add := by decide +kernel
theorem inX1_add_X1 : ∀ w ∈ wsX10, w ∈ wsX1_add := by decide +kernel
theorem mbX1_add_f9 : Cond.fieldLink RX1 9 (TX1 0).1 (TX1 0).2.1 (TX1 0).2.2.1 ∈ wsX1_add := by decide +kernel
theorem hdVX1_add : yX1_add.cls = RX1 ∧ yX1_add.cls ≠ "java/lang/invoke/MethodHandle" ∧ yX1_add.cls ≠ "java/lang/invoke/VarHandle" ∧ (parseMethodDescriptor yX1_add.desc).map (fun d => d.parameters.length) = some 1 := by decide +kernel
set_option maxHeartbeats 4000000 in
set_option maxRecDepth 100000 in
theorem ctX1_add {l : Launch} {D : va_G} {cI cJ cQ : ClassId} (ad : Nat → Nat) (yl : (Nat → Int32)) (yt : Int32) (v1 : Int32) {res : Int32 × (Nat → Int32) × Int32} (h : fX1_add v1 yl yt = some res) : CtI l D cI cJ cQ yX1_add wsX1_add rmX1_add [.ref (ad 0), .int v1] (wLt cI ad yl yt) res.1 (wLt cI ad res.2.1 res.2.2) := by
  refine ctI_of .int (cc := cX1_add) (maxL := 2) (by decide) rfl (Nat.le_of_ble_eq_true rfl) ?_
  intro p e s m args below meth c A Q ls F hK hA RET hH hl
  obtain ⟨hx, hb, hml, hown, hts⟩ := id F
  have hl : lv_has ls 2 [(0, .ref (ad 0)), (1, .int v1)] := hl
  have hf : wpO (fX1_add v1 yl yt) (fun v => v = res) := ⟨_, h, rfl⟩
  obtain ⟨H, eH⟩ : ∃ H, H = s.heap := ⟨_, rfl⟩
  obtain ⟨locs, eL⟩ : ∃ locs : List Loc, locs = [] := ⟨_, rfl⟩
  have hH : Hs D A s.heap (wLt cI ad yl yt) H locs := by rw [eH, eL]; exact hH
  rw [← eL]
  suffices hgo : W p l e rmX1_add s m args below meth c H locs 0 0 Q (F0 m 0 ls []) by rw [eH] at hgo; exact hgo
  clear eH eL
  refine lv_aload_n hx hb dX1_add_0 rfl (lv_at hl 0 rfl) ?_
  obtain ⟨x1, hcl, hf⟩ := wp_b hf
  refine k_Vi0 F hK hH hA hl.1 ⟨Nat.zero_le _, Nat.zero_le _⟩ [] [] (ctX1_isFull ad yl yt hcl) (cwV 0 hts gX1_add_X1_isFull rfl rfl rfl hdVX1_isFull ⟨Nat.le_of_ble_eq_true rfl, Nat.le_of_ble_eq_true rfl⟩) dX1_add_1 0 rfl rfl rfl rfl rfl (Nat.le_of_ble_eq_true rfl) rfl (fun H locs hH => ?_)
  have hH : Hs D A s.heap (wLt cI ad yl yt) H locs := hH
  refine lv_if_ne (tgt := 27) hx hb dX1_add_4 (by decide) (fun hc => ?_) (fun hc => ?_)
  · have hf := wp_f hc hf
    refine lv_aload_n hx hb dX1_add_27 rfl (lv_at hl 0 rfl) ?_
    refine k_get (v := .int yt) F hK hH 0 inX1_add_X1 1 mbX1_add_f15 dX1_add_28 rfl rfl (by decide) rfl ?_
    have hrs := wp_s hf
    subst hrs
    exact RET H locs ls 31 dX1_add_31 rfl hH
  · have hf := wp_t hc hf
    refine lv_aload_n hx hb dX1_add_7 rfl (lv_at hl 0 rfl) ?_
    refine k_get (v := .ref (ad 1)) F hK hH 0 inX1_add_X1 0 mbX1_add_f9 dX1_add_8 rfl rfl (by decide) rfl ?_
    refine lv_aload_n hx hb dX1_add_11 rfl (lv_at hl 0 rfl) ?_
    refine k_get (v := .int yt) F hK hH 0 inX1_add_X1 1 mbX1_add_f15 dX1_add_12 rfl rfl (by decide) rfl ?_
    refine lv_iload_n hx hb dX1_add_15 rfl (lv_at hl 1 rfl) ?_
    obtain ⟨hi, hf⟩ := wp_n hf
    refine k_iast (f := yl) (n := 96) F hK hH 1 dX1_add_16 hi rfl (fun H locs hH => ?_)
    have hH : Hs D A s.heap (wLt cI ad (upd yl (Int32.toNatClampNeg yt) v1) yt) H locs := hH
    refine lv_aload_n hx hb dX1_add_17 rfl (lv_at hl 0 rfl) ?_
    refine lv_dup hx hb dX1_add_18 rfl ?_
    refine k_get (v := .int yt) F hK hH 0 inX1_add_X1 1 mbX1_add_f15 dX1_add_19 rfl rfl (by decide) rfl ?_
    refine lv_iconst (v := 1) hx hb dX1_add_22 (by decide) ?_
    refine lv_iadd hx hb dX1_add_23 ?_
    refine k_put (v := .int (yt + 1)) F hK hH 0 inX1_add_X1 tyX1 tyX1_ok nmX1 1 mbX1_add_f15 dX1_add_24 rfl rfl (by decide) rfl rfl rfl (Nat.le_of_ble_eq_true rfl) (fun H locs hH => ?_)
    have hH : Hs D A s.heap (wLt cI ad (upd yl (Int32.toNatClampNeg yt) v1) (yt + 1)) H locs := hH
    refine lv_aload_n hx hb dX1_add_27 rfl (lv_at hl 0 rfl) ?_
    refine k_get (v := .int (yt + 1)) F hK hH 0 inX1_add_X1 1 mbX1_add_f15 dX1_add_28 rfl rfl (by decide) rfl ?_
    have hrs := wp_s hf
    subst hrs
    exact RET H locs ls 31 dX1_add_31 rfl hH

def fX3_letter (v1 : Int32) (yl : (Nat → Int32)) (yt : Int32) (ye : (Nat → Int32)) : Option (Int32 × (Nat → Int32) × Int32 × (Nat → Int32)) :=
  if (0 : Int32) ≤ v1 then
    if (255 : Int32) < v1 then
      Option.bind (fX3_refuse (-6) ye) fun x1 =>
      some (x1.1, yl, yt, x1.2)
    else
      Option.bind (fX1_isFull yt) fun x2 =>
      if x2 = 0 then
        Option.bind (fX1_add v1 yl yt) fun x3 =>
        some (x3.1, x3.2.1, x3.2.2, ye)
      else
        Option.bind (fX3_refuse (-6) ye) fun x4 =>
        some (x4.1, yl, yt, x4.2)
  else
    Option.bind (fX3_refuse (-4) ye) fun x5 =>
    some (x5.1, yl, yt, x5.2)

def rmX3_letter : Room := { frames := 2, cells := 0, slots := 0, locals := 41 }
theorem mbX3_letter_f25 : Cond.fieldLink RX3 25 (TX3 3).1 (TX3 3).2.1 (TX3 3).2.2.1 ∈ wsX3_letter := by decide +kernel
theorem inX3_letter_X3 : ∀ w ∈ wsX30, w ∈ wsX3_letter := by decide +kernel
theorem hdVX3_letter : yX3_letter.cls = RX3 ∧ yX3_letter.cls ≠ "java/lang/invoke/MethodHandle" ∧ yX3_letter.cls ≠ "java/lang/invoke/VarHandle" ∧ (parseMethodDescriptor yX3_letter.desc).map (fun d => d.parameters.length) = some 1 := by decide +kernel
set_option maxHeartbeats 4000000 in
set_option maxRecDepth 100000 in
theorem ctX3_letter {l : Launch} {D : va_G} {cI cJ cQ : ClassId} (ad : Nat → Nat) (yn : LandT) (ym : LandT) (yk : LandT) (yl : (Nat → Int32)) (yt : Int32) (yd : Int32) (yu : (Nat → Int32)) (ye : (Nat → Int32)) (yv : (Nat → Int32)) (yo : (Nat → Int64)) (y0 : (Nat → Int32)) (y1 : (Nat → Int32)) (yc : Int32) (yh : Int32) (v1 : Int32) {res : Int32 × (Nat → Int32) × Int32 × (Nat → Int32)} (h : fX3_letter v1 yl yt ye = some res) : CtI l D cI cJ cQ yX3_letter wsX3_letter rmX3_letter [.ref (ad 0), .int v1] (wMn cI cJ cQ ad yn ym yk yl yt yd yu ye yv yo y0 y1 yc yh) res.1 (wMn cI cJ cQ ad yn ym yk res.2.1 res.2.2.1 yd yu res.2.2.2 yv yo y0 y1 yc yh) := by
  refine ctI_of .int (cc := cX3_letter) (maxL := 2) (by decide) rfl (Nat.le_of_ble_eq_true rfl) ?_
  intro p e s m args below meth c A Q ls F hK hA RET hH hl
  obtain ⟨hx, hb, hml, hown, hts⟩ := id F
  have hl : lv_has ls 2 [(0, .ref (ad 0)), (1, .int v1)] := hl
  have hf : wpO (fX3_letter v1 yl yt ye) (fun v => v = res) := ⟨_, h, rfl⟩
  obtain ⟨H, eH⟩ : ∃ H, H = s.heap := ⟨_, rfl⟩
  obtain ⟨locs, eL⟩ : ∃ locs : List Loc, locs = [] := ⟨_, rfl⟩
  have hH : Hs D A s.heap (wMn cI cJ cQ ad yn ym yk yl yt yd yu ye yv yo y0 y1 yc yh) H locs := by rw [eH, eL]; exact hH
  rw [← eL]
  suffices hgo : W p l e rmX3_letter s m args below meth c H locs 0 0 Q (F0 m 0 ls []) by rw [eH] at hgo; exact hgo
  clear eH eL
  refine lv_iload_n hx hb dX3_letter_0 rfl (lv_at hl 1 rfl) ?_
  refine lv_if_ge (tgt := 11) hx hb dX3_letter_1 (by decide) (fun hc => ?_) (fun hc => ?_)
  · have hf := wp_t hc hf
    refine lv_iload_n hx hb dX3_letter_11 rfl (lv_at hl 1 rfl) ?_
    refine lv_sipush (v := 255) hx hb dX3_letter_12 (by decide) ?_
    refine lv_icmp_gt (tgt := 28) hx hb dX3_letter_15 (by decide) (fun hc => ?_) (fun hc => ?_)
    · have hf := wp_t hc hf
      refine lv_aload_n hx hb dX3_letter_28 rfl (lv_at hl 0 rfl) ?_
      refine lv_bipush (v := (-6)) hx hb dX3_letter_29 (by decide) ?_
      obtain ⟨x1, hcl, hf⟩ := wp_b hf
      refine k_Vi0 F hK hH hA hl.1 ⟨Nat.zero_le _, Nat.zero_le _⟩ [.int (-6)] [] (ctX3_refuse ad yn ym yk yl yt yd yu ye yv yo y0 y1 yc yh (-6) hcl) (cwV 1 hts gX3_letter_X3_refuse rfl rfl rfl hdVX3_refuse ⟨Nat.le_of_ble_eq_true rfl, Nat.le_of_ble_eq_true rfl⟩) dX3_letter_31 0 rfl rfl rfl rfl rfl (Nat.le_of_ble_eq_true rfl) rfl (fun H locs hH => ?_)
      have hH : Hs D A s.heap (wMn cI cJ cQ ad yn ym yk yl yt yd yu x1.2 yv yo y0 y1 yc yh) H locs := hH
      refine W.eq (g2 := F0 m 34 ls [.int x1.1]) rfl ?_
      have hrs := wp_s hf
      subst hrs
      exact RET H locs ls 34 dX3_letter_34 rfl hH
    · have hf := wp_f hc hf
      refine lv_aload_n hx hb dX3_letter_18 rfl (lv_at hl 0 rfl) ?_
      refine k_get (v := .ref (ad 25)) F hK hH 0 inX3_letter_X3 3 mbX3_letter_f25 dX3_letter_19 rfl rfl (by decide) rfl ?_
      obtain ⟨x2, hcl, hf⟩ := wp_b hf
      refine k_Vi F hK hH hA hl.1 ⟨Nat.zero_le _, Nat.zero_le _⟩ [25, 26] [] [] (ctX1_isFull (fun k => ad (25 + k)) yl yt hcl) (cwV 0 hts gX3_letter_X1_isFull rfl rfl rfl hdVX1_isFull ⟨Nat.le_of_ble_eq_true rfl, Nat.le_of_ble_eq_true rfl⟩) dX3_letter_22 25 rfl rfl rfl rfl rfl (Nat.le_of_ble_eq_true rfl) rfl rfl (by decide) (fun H locs hH => ?_)
      have hH : Hs D A s.heap (wMn cI cJ cQ ad yn ym yk yl yt yd yu ye yv yo y0 y1 yc yh) H locs := hH
      refine lv_if_eq (tgt := 35) hx hb dX3_letter_25 (by decide) (fun hc => ?_) (fun hc => ?_)
      · have hf := wp_t hc hf
        refine lv_aload_n hx hb dX3_letter_35 rfl (lv_at hl 0 rfl) ?_
        refine k_get (v := .ref (ad 25)) F hK hH 0 inX3_letter_X3 3 mbX3_letter_f25 dX3_letter_36 rfl rfl (by decide) rfl ?_
        refine lv_iload_n hx hb dX3_letter_39 rfl (lv_at hl 1 rfl) ?_
        obtain ⟨x3, hcl, hf⟩ := wp_b hf
        refine k_Vi F hK hH hA hl.1 ⟨Nat.zero_le _, Nat.zero_le _⟩ [25, 26] [.int v1] [] (ctX1_add (fun k => ad (25 + k)) yl yt v1 hcl) (cwV 1 hts gX3_letter_X1_add rfl rfl rfl hdVX1_add ⟨Nat.le_of_ble_eq_true rfl, Nat.le_of_ble_eq_true rfl⟩) dX3_letter_40 25 rfl rfl rfl rfl rfl (Nat.le_of_ble_eq_true rfl) rfl rfl (by decide) (fun H locs hH => ?_)
        have hH : Hs D A s.heap (wMn cI cJ cQ ad yn ym yk x3.2.1 x3.2.2 yd yu ye yv yo y0 y1 yc yh) H locs := hH
        refine W.eq (g2 := F0 m 43 ls [.int x3.1]) rfl ?_
        have hrs := wp_s hf
        subst hrs
        exact RET H locs ls 43 dX3_letter_43 rfl hH
      · have hf := wp_f hc hf
        refine lv_aload_n hx hb dX3_letter_28 rfl (lv_at hl 0 rfl) ?_
        refine lv_bipush (v := (-6)) hx hb dX3_letter_29 (by decide) ?_
        obtain ⟨x4, hcl, hf⟩ := wp_b hf
        refine k_Vi0 F hK hH hA hl.1 ⟨Nat.zero_le _, Nat.zero_le _⟩ [.int (-6)] [] (ctX3_refuse ad yn ym yk yl yt yd yu ye yv yo y0 y1 yc yh (-6) hcl) (cwV 1 hts gX3_letter_X3_refuse rfl rfl rfl hdVX3_refuse ⟨Nat.le_of_ble_eq_true rfl, Nat.le_of_ble_eq_true rfl⟩) dX3_letter_31 0 rfl rfl rfl rfl rfl (Nat.le_of_ble_eq_true rfl) rfl (fun H locs hH => ?_)
        have hH : Hs D A s.heap (wMn cI cJ cQ ad yn ym yk yl yt yd yu x4.2 yv yo y0 y1 yc yh) H locs := hH
        refine W.eq (g2 := F0 m 34 ls [.int x4.1]) rfl ?_
        have hrs := wp_s hf
        subst hrs
        exact RET H locs ls 34 dX3_letter_34 rfl hH
  · have hf := wp_f hc hf
    refine lv_aload_n hx hb dX3_letter_4 rfl (lv_at hl 0 rfl) ?_
    refine lv_bipush (v := (-4)) hx hb dX3_letter_5 (by decide) ?_
    obtain ⟨x5, hcl, hf⟩ := wp_b hf
    refine k_Vi0 F hK hH hA hl.1 ⟨Nat.zero_le _, Nat.zero_le _⟩ [.int (-4)] [] (ctX3_refuse ad yn ym yk yl yt yd yu ye yv yo y0 y1 yc yh (-4) hcl) (cwV 1 hts gX3_letter_X3_refuse rfl rfl rfl hdVX3_refuse ⟨Nat.le_of_ble_eq_true rfl, Nat.le_of_ble_eq_true rfl⟩) dX3_letter_7 0 rfl rfl rfl rfl rfl (Nat.le_of_ble_eq_true rfl) rfl (fun H locs hH => ?_)
    have hH : Hs D A s.heap (wMn cI cJ cQ ad yn ym yk yl yt yd yu x5.2 yv yo y0 y1 yc yh) H locs := hH
    refine W.eq (g2 := F0 m 10 ls [.int x5.1]) rfl ?_
    have hrs := wp_s hf
    subst hrs
    exact RET H locs ls 10 dX3_letter_10 rfl hH

