def fX1_forget (yt : Int32) : Option (Int32) :=
  some 0

def rmX1_forget : Room := { frames := 0, cells := 0, slots := 0, locals := 0 }
theorem mbX1_forget_f15 : Cond.fieldLink RX1 15 (TX1 1).1 (TX1 1).2.1 (TX1 1).2.2.1 ∈ wsX1_forget := by decide +kernel
theorem inX1_forget_X1 : ∀ w ∈ wsX10, w ∈ wsX1_forget := by decide +kernel
theorem hdVX1_forget : yX1_forget.cls = RX1 ∧ yX1_forget.cls ≠ "java/lang/invoke/MethodHandle" ∧ yX1_forget.cls ≠ "java/lang/invoke/VarHandle" ∧ (parseMethodDescriptor yX1_forget.desc).map (fun d => d.parameters.length) = some 0 := by decide +kernel
set_option maxHeartbeats 4000000 in
set_option maxRecDepth 100000 in
theorem ctX1_forget {l : Launch} {D : va_G} {cI cJ cQ : ClassId} (ad : Nat → Nat) (yl : (Nat → Int32)) (yt : Int32)  {res : Int32} (h : fX1_forget yt = some res) : CtV l D cI cJ cQ yX1_forget wsX1_forget rmX1_forget [.ref (ad 0)] (wLt cI ad yl yt) (wLt cI ad yl res) := by
  refine ctV_of (cc := cX1_forget) (maxL := 1) (by decide) rfl (Nat.le_of_ble_eq_true rfl) ?_
  intro p e s m args below meth c A Q ls F hK hA RET hH hl
  obtain ⟨hx, hb, hml, hown, hts⟩ := id F
  have hl : lv_has ls 1 [(0, .ref (ad 0))] := hl
  have hf : wpO (fX1_forget yt) (fun v => v = res) := ⟨_, h, rfl⟩
  obtain ⟨H, eH⟩ : ∃ H, H = s.heap := ⟨_, rfl⟩
  obtain ⟨locs, eL⟩ : ∃ locs : List Loc, locs = [] := ⟨_, rfl⟩
  have hH : Hs D A s.heap (wLt cI ad yl yt) H locs := by rw [eH, eL]; exact hH
  rw [← eL]
  suffices hgo : W p l e rmX1_forget s m args below meth c H locs 0 0 Q (F0 m 0 ls []) by rw [eH] at hgo; exact hgo
  clear eH eL
  refine lv_aload_n hx hb dX1_forget_0 rfl (lv_at hl 0 rfl) ?_
  refine lv_iconst (v := 0) hx hb dX1_forget_1 (by decide) ?_
  refine k_put (v := .int 0) F hK hH 0 inX1_forget_X1 tyX1 tyX1_ok nmX1 1 mbX1_forget_f15 dX1_forget_2 rfl rfl (by decide) rfl rfl rfl (Nat.le_of_ble_eq_true rfl) (fun H locs hH => ?_)
  have hH : Hs D A s.heap (wLt cI ad yl 0) H locs := hH
  have hrs := wp_s hf
  subst hrs
  exact RET H locs ls 5 dX1_forget_5 hH

def bX1_statements_4 (yl : (Nat → Int32)) (yt : Int32) : (Int32 × Int32) → Option ((Int32 × Int32) ⊕ (Int32)) := fun ((t1, t2) : Int32 × Int32) =>
  if yt ≤ t2 then
    some (.inr t1)
  else
    if ob t2 96 then none else
    Option.bind (if (yl (Int32.toNatClampNeg t2)) = 59 then
        some 1
      else
        some 0) fun (t4 : Int32) =>
    some (.inl (t1 + t4, t2 + 1))

def fX1_statements (yl : (Nat → Int32)) (yt : Int32) : Option (Int32) :=
  Option.bind (lp (bX1_statements_4 yl yt) fu (0, 0)) fun (t3 : Int32) =>
  some t3

def rmX1_statements : Room := { frames := 0, cells := 0, slots := 0, locals := 0 }
theorem mbX1_statements_f15 : Cond.fieldLink RX1 15 (TX1 1).1 (TX1 1).2.1 (TX1 1).2.2.1 ∈ wsX1_statements := by decide +kernel
theorem inX1_statements_X1 : ∀ w ∈ wsX10, w ∈ wsX1_statements := by decide +kernel
theorem mbX1_statements_f9 : Cond.fieldLink RX1 9 (TX1 0).1 (TX1 0).2.1 (TX1 0).2.2.1 ∈ wsX1_statements := by decide +kernel
theorem hdVX1_statements : yX1_statements.cls = RX1 ∧ yX1_statements.cls ≠ "java/lang/invoke/MethodHandle" ∧ yX1_statements.cls ≠ "java/lang/invoke/VarHandle" ∧ (parseMethodDescriptor yX1_statements.desc).map (fun d => d.parameters.length) = some 0 := by decide +kernel
set_option maxHeartbeats 4000000 in
set_option maxRecDepth 100000 in
theorem ctX1_statements {l : Launch} {D : va_G} {cI cJ cQ : ClassId} (ad : Nat → Nat) (yl : (Nat → Int32)) (yt : Int32)  {res : Int32} (h : fX1_statements yl yt = some res) : CtI l D cI cJ cQ yX1_statements wsX1_statements rmX1_statements [.ref (ad 0)] (wLt cI ad yl yt) res (wLt cI ad yl yt) := by
  refine ctI_of .int (cc := cX1_statements) (maxL := 3) (by decide) rfl (Nat.le_of_ble_eq_true rfl) ?_
  intro p e s m args below meth c A Q ls F hK hA RET hH hl
  obtain ⟨hx, hb, hml, hown, hts⟩ := id F
  have hl : lv_has ls 3 [(0, .ref (ad 0))] := hl
  have hf : wpO (fX1_statements yl yt) (fun v => v = res) := ⟨_, h, rfl⟩
  obtain ⟨H, eH⟩ : ∃ H, H = s.heap := ⟨_, rfl⟩
  obtain ⟨locs, eL⟩ : ∃ locs : List Loc, locs = [] := ⟨_, rfl⟩
  have hH : Hs D A s.heap (wLt cI ad yl yt) H locs := by rw [eH, eL]; exact hH
  rw [← eL]
  suffices hgo : W p l e rmX1_statements s m args below meth c H locs 0 0 Q (F0 m 0 ls []) by rw [eH] at hgo; exact hgo
  clear eH eL
  refine lv_iconst (v := 0) hx hb dX1_statements_0 (by decide) ?_
  refine lv_istore_n (lv' := [(1, .int 0), (0, .ref (ad 0))]) hx hb dX1_statements_1 rfl hl (by decide) rfl (fun ls hl => ?_)
  refine lv_iconst (v := 0) hx hb dX1_statements_2 (by decide) ?_
  refine lv_istore_n (lv' := [(2, .int 0), (1, .int 0), (0, .ref (ad 0))]) hx hb dX1_statements_3 rfl hl (by decide) rfl (fun ls hl => ?_)
  have LP : ∀ (Φ : (Int32) → Prop), (∀ (t3 : Int32) (H : Heap) (locs : List Loc) (ls : Array Slot), Φ (t3) → Hs D A s.heap (wLt cI ad yl yt) H locs → lv_has ls 3 [(1, .int t3)] → W p l e rmX1_statements s m args below meth c H locs 0 0 Q (F0 m 37 ls [])) → ∀ (n : Nat) (t1 : Int32) (t2 : Int32) (H : Heap) (locs : List Loc) (ls : Array Slot), wpO (lp (bX1_statements_4 yl yt) n (t1, t2)) Φ → Hs D A s.heap (wLt cI ad yl yt) H locs → lv_has ls 3 [(0, .ref (ad 0)), (1, .int t1), (2, .int t2)] → W p l e rmX1_statements s m args below meth c H locs 0 0 Q (F0 m 4 ls []) := by
    intro Φ EX n
    induction n with
    | zero =>
      intro t1 t2 H locs ls hf hH hl
      exact (wp_l0 hf).elim
    | succ n ih =>
      intro t1 t2 H locs ls hf hH hl
      have hf := wp_l hf
      refine lv_iload_n hx hb dX1_statements_4 rfl (lv_at hl 2 rfl) ?_
      refine lv_aload_n hx hb dX1_statements_5 rfl (lv_at hl 0 rfl) ?_
      refine k_get (v := .int yt) F hK hH 0 inX1_statements_X1 1 mbX1_statements_f15 dX1_statements_6 rfl rfl (by decide) rfl ?_
      refine lv_icmp_ge (tgt := 37) hx hb dX1_statements_9 (by decide) (fun hc => ?_) (fun hc => ?_)
      · have hf := wp_t hc hf
        have hw := wp_out hf
        exact EX _ _ _ _ hw hH (lv_sub hl [1] rfl)
      · have hf := wp_f hc hf
        refine lv_iload_n hx hb dX1_statements_12 rfl (lv_at hl 1 rfl) ?_
        refine lv_aload_n hx hb dX1_statements_13 rfl (lv_at hl 0 rfl) ?_
        refine k_get (v := .ref (ad 1)) F hK hH 0 inX1_statements_X1 0 mbX1_statements_f9 dX1_statements_14 rfl rfl (by decide) rfl ?_
        refine lv_iload_n hx hb dX1_statements_17 rfl (lv_at hl 2 rfl) ?_
        obtain ⟨hi, hf⟩ := wp_n hf
        refine k_iald (f := yl) (n := 96) F hK hH 1 dX1_statements_18 hi rfl ?_
        refine lv_bipush (v := 59) hx hb dX1_statements_19 (by decide) ?_
        refine join_ (α := Int32) (fun Φ => ∀ (t4 : Int32) (H : Heap) (locs : List Loc) (ls : Array Slot), Φ t4 → Hs D A s.heap (wLt cI ad yl yt) H locs → lv_has ls 3 [(0, .ref (ad 0)), (2, .int t2)] → W p l e rmX1_statements s m args below meth c H locs 0 0 Q (F0 m 29 ls [.int t4, .int t1])) (wp_bb hf) ?_ ?_
        · intro t4 H locs ls hf hH hl
          refine lv_iadd hx hb dX1_statements_29 ?_
          refine lv_istore_n (lv' := [(1, .int (t1 + t4)), (0, .ref (ad 0)), (2, .int t2)]) hx hb dX1_statements_30 rfl hl (by decide) rfl (fun ls hl => ?_)
          refine lv_iinc (v := t2 + 1) (lv' := [(2, .int (t2 + 1)), (1, .int (t1 + t4)), (0, .ref (ad 0))]) hx hb dX1_statements_31 hl (k := 2) rfl rfl (by decide) rfl (fun ls hl => ?_)
          refine lv_goto (tgt := 4) hx hb dX1_statements_34 (by decide) ?_
          have hw := wp_in hf
          exact ih _ _ _ _ _ hw hH (lv_sub hl [2, 1, 0] rfl)
        · intro Φ JJ hf
          refine lv_icmp_ne (tgt := 28) hx hb dX1_statements_21 (by decide) (fun hc => ?_) (fun hc => ?_)
          · have hf := wp_f hc hf
            refine lv_iconst (v := 0) hx hb dX1_statements_28 (by decide) ?_
            have hw := wp_s hf
            exact JJ _ _ _ _ hw hH (lv_sub hl [0, 2] rfl)
          · have hf := wp_t hc hf
            refine lv_iconst (v := 1) hx hb dX1_statements_24 (by decide) ?_
            refine lv_goto (tgt := 29) hx hb dX1_statements_25 (by decide) ?_
            have hw := wp_s hf
            exact JJ _ _ _ _ hw hH (lv_sub hl [0, 2] rfl)
  refine LP _ (fun t3 H locs ls hf hH hl => ?_) fu _ _ _ _ _ (wp_bb hf) hH (lv_sub hl [2, 1, 0] rfl)
  refine lv_iload_n hx hb dX1_statements_37 rfl (lv_at hl 0 rfl) ?_
  have hrs := wp_s hf
  subst hrs
  exact RET H locs ls 38 dX1_statements_38 rfl hH

def fX1_digitAt (v1 : Int32) (yl : (Nat → Int32)) (yt : Int32) : Option (Int32) :=
  if yt ≤ v1 then
    some 0
  else
    if ob v1 96 then none else
    some ((yl (Int32.toNatClampNeg v1)) - 48)

def rmX1_digitAt : Room := { frames := 0, cells := 0, slots := 0, locals := 0 }
theorem mbX1_digitAt_f15 : Cond.fieldLink RX1 15 (TX1 1).1 (TX1 1).2.1 (TX1 1).2.2.1 ∈ wsX1_digitAt := by decide +kernel
theorem inX1_digitAt_X1 : ∀ w ∈ wsX10, w ∈ wsX1_digitAt := by decide +kernel
theorem mbX1_digitAt_f9 : Cond.fieldLink RX1 9 (TX1 0).1 (TX1 0).2.1 (TX1 0).2.2.1 ∈ wsX1_digitAt := by decide +kernel
theorem hdVX1_digitAt : yX1_digitAt.cls = RX1 ∧ yX1_digitAt.cls ≠ "java/lang/invoke/MethodHandle" ∧ yX1_digitAt.cls ≠ "java/lang/invoke/VarHandle" ∧ (parseMethodDescriptor yX1_digitAt.desc).map (fun d => d.parameters.length) = some 1 := by decide +kernel
set_option maxHeartbeats 4000000 in
set_option maxRecDepth 100000 in
theorem ctX1_digitAt {l : Launch} {D : va_G} {cI cJ cQ : ClassId} (ad : Nat → Nat) (yl : (Nat → Int32)) (yt : Int32) (v1 : Int32) {res : Int32} (h : fX1_digitAt v1 yl yt = some res) : CtI l D cI cJ cQ yX1_digitAt wsX1_digitAt rmX1_digitAt [.ref (ad 0), .int v1] (wLt cI ad yl yt) res (wLt cI ad yl yt) := by
  refine ctI_of .int (cc := cX1_digitAt) (maxL := 2) (by decide) rfl (Nat.le_of_ble_eq_true rfl) ?_
  intro p e s m args below meth c A Q ls F hK hA RET hH hl
  obtain ⟨hx, hb, hml, hown, hts⟩ := id F
  have hl : lv_has ls 2 [(0, .ref (ad 0)), (1, .int v1)] := hl
  have hf : wpO (fX1_digitAt v1 yl yt) (fun v => v = res) := ⟨_, h, rfl⟩
  obtain ⟨H, eH⟩ : ∃ H, H = s.heap := ⟨_, rfl⟩
  obtain ⟨locs, eL⟩ : ∃ locs : List Loc, locs = [] := ⟨_, rfl⟩
  have hH : Hs D A s.heap (wLt cI ad yl yt) H locs := by rw [eH, eL]; exact hH
  rw [← eL]
  suffices hgo : W p l e rmX1_digitAt s m args below meth c H locs 0 0 Q (F0 m 0 ls []) by rw [eH] at hgo; exact hgo
  clear eH eL
  refine lv_iload_n hx hb dX1_digitAt_0 rfl (lv_at hl 1 rfl) ?_
  refine lv_aload_n hx hb dX1_digitAt_1 rfl (lv_at hl 0 rfl) ?_
  refine k_get (v := .int yt) F hK hH 0 inX1_digitAt_X1 1 mbX1_digitAt_f15 dX1_digitAt_2 rfl rfl (by decide) rfl ?_
  refine lv_icmp_ge (tgt := 20) hx hb dX1_digitAt_5 (by decide) (fun hc => ?_) (fun hc => ?_)
  · have hf := wp_t hc hf
    refine lv_iconst (v := 0) hx hb dX1_digitAt_20 (by decide) ?_
    have hrs := wp_s hf
    subst hrs
    exact RET H locs ls 21 dX1_digitAt_21 rfl hH
  · have hf := wp_f hc hf
    refine lv_aload_n hx hb dX1_digitAt_8 rfl (lv_at hl 0 rfl) ?_
    refine k_get (v := .ref (ad 1)) F hK hH 0 inX1_digitAt_X1 0 mbX1_digitAt_f9 dX1_digitAt_9 rfl rfl (by decide) rfl ?_
    refine lv_iload_n hx hb dX1_digitAt_12 rfl (lv_at hl 1 rfl) ?_
    obtain ⟨hi, hf⟩ := wp_n hf
    refine k_iald (f := yl) (n := 96) F hK hH 1 dX1_digitAt_13 hi rfl ?_
    refine lv_bipush (v := 48) hx hb dX1_digitAt_14 (by decide) ?_
    refine lv_isub hx hb dX1_digitAt_16 ?_
    refine lv_goto (tgt := 21) hx hb dX1_digitAt_17 (by decide) ?_
    have hrs := wp_s hf
    subst hrs
    exact RET H locs ls 21 dX1_digitAt_21 rfl hH

def fX1_twoDigitsAt (v1 : Int32) (yl : (Nat → Int32)) (yt : Int32) : Option (Int32) :=
  Option.bind (fX1_digitAt v1 yl yt) fun x1 =>
  Option.bind (fX1_digitAt (v1 + 1) yl yt) fun x2 =>
  some ((10 * x1) + x2)

def rmX1_twoDigitsAt : Room := { frames := 1, cells := 0, slots := 0, locals := 21 }
theorem hdVX1_twoDigitsAt : yX1_twoDigitsAt.cls = RX1 ∧ yX1_twoDigitsAt.cls ≠ "java/lang/invoke/MethodHandle" ∧ yX1_twoDigitsAt.cls ≠ "java/lang/invoke/VarHandle" ∧ (parseMethodDescriptor yX1_twoDigitsAt.desc).map (fun d => d.parameters.length) = some 1 := by decide +kernel
set_option maxHeartbeats 4000000 in
set_option maxRecDepth 100000 in
theorem ctX1_twoDigitsAt {l : Launch} {D : va_G} {cI cJ cQ : ClassId} (ad : Nat → Nat) (yl : (Nat → Int32)) (yt : Int32) (v1 : Int32) {res : Int32} (h : fX1_twoDigitsAt v1 yl yt = some res) : CtI l D cI cJ cQ yX1_twoDigitsAt wsX1_twoDigitsAt rmX1_twoDigitsAt [.ref (ad 0), .int v1] (wLt cI ad yl yt) res (wLt cI ad yl yt) := by
  refine ctI_of .int (cc := cX1_twoDigitsAt) (maxL := 2) (by decide) rfl (Nat.le_of_ble_eq_true rfl) ?_
  intro p e s m args below meth c A Q ls F hK hA RET hH hl
  obtain ⟨hx, hb, hml, hown, hts⟩ := id F
  have hl : lv_has ls 2 [(0, .ref (ad 0)), (1, .int v1)] := hl
  have hf : wpO (fX1_twoDigitsAt v1 yl yt) (fun v => v = res) := ⟨_, h, rfl⟩
  obtain ⟨H, eH⟩ : ∃ H, H = s.heap := ⟨_, rfl⟩
  obtain ⟨locs, eL⟩ : ∃ locs : List Loc, locs = [] := ⟨_, rfl⟩
  have hH : Hs D A s.heap (wLt cI ad yl yt) H locs := by rw [eH, eL]; exact hH
  rw [← eL]
  suffices hgo : W p l e rmX1_twoDigitsAt s m args below meth c H locs 0 0 Q (F0 m 0 ls []) by rw [eH] at hgo; exact hgo
  clear eH eL
  refine lv_bipush (v := 10) hx hb dX1_twoDigitsAt_0 (by decide) ?_
  refine lv_aload_n hx hb dX1_twoDigitsAt_2 rfl (lv_at hl 0 rfl) ?_
  refine lv_iload_n hx hb dX1_twoDigitsAt_3 rfl (lv_at hl 1 rfl) ?_
  obtain ⟨x1, hcl, hf⟩ := wp_b hf
  refine k_Vi0 F hK hH hA hl.1 ⟨Nat.zero_le _, Nat.zero_le _⟩ [.int v1] [.int 10] (ctX1_digitAt ad yl yt v1 hcl) (cwV 1 hts gX1_twoDigitsAt_X1_digitAt rfl rfl rfl hdVX1_digitAt ⟨Nat.le_of_ble_eq_true rfl, Nat.le_of_ble_eq_true rfl⟩) dX1_twoDigitsAt_4 0 rfl rfl rfl rfl rfl (Nat.le_of_ble_eq_true rfl) rfl (fun H locs hH => ?_)
  have hH : Hs D A s.heap (wLt cI ad yl yt) H locs := hH
  refine lv_imul hx hb dX1_twoDigitsAt_7 ?_
  refine lv_aload_n hx hb dX1_twoDigitsAt_8 rfl (lv_at hl 0 rfl) ?_
  refine lv_iload_n hx hb dX1_twoDigitsAt_9 rfl (lv_at hl 1 rfl) ?_
  refine lv_iconst (v := 1) hx hb dX1_twoDigitsAt_10 (by decide) ?_
  refine lv_iadd hx hb dX1_twoDigitsAt_11 ?_
  obtain ⟨x2, hcl, hf⟩ := wp_b hf
  refine k_Vi0 F hK hH hA hl.1 ⟨Nat.zero_le _, Nat.zero_le _⟩ [.int (v1 + 1)] [.int (10 * x1)] (ctX1_digitAt ad yl yt (v1 + 1) hcl) (cwV 1 hts gX1_twoDigitsAt_X1_digitAt rfl rfl rfl hdVX1_digitAt ⟨Nat.le_of_ble_eq_true rfl, Nat.le_of_ble_eq_true rfl⟩) dX1_twoDigitsAt_12 0 rfl rfl rfl rfl rfl (Nat.le_of_ble_eq_true rfl) rfl (fun H locs hH => ?_)
  have hH : Hs D A s.heap (wLt cI ad yl yt) H locs := hH
  refine lv_iadd hx hb dX1_twoDigitsAt_15 ?_
  have hrs := wp_s hf
  subst hrs
  exact RET H locs ls 16 dX1_twoDigitsAt_16 rfl hH

def fX1_tellHeight (v1 : Int32) (v2 : Int32) (g : LandT) : Option (Int32 × LandT) :=
  Option.bind (fX3_isCell v1) fun x1 =>
  if x1 = 0 then
    (bo x1).bind fun z2 =>
    some (z2, g)
  else
    Option.bind (fX0_setHeight v1 v2 g) fun x3 =>
    (bo x1).bind fun z4 =>
    some (z4, x3)

def rmX1_tellHeight : Room := { frames := 2, cells := 0, slots := 0, locals := 44 }
theorem mbX1_tellHeight_iX3 : Cond.initialized RX3 ∈ wsX1_tellHeight := by decide +kernel
theorem mbX1_tellHeight_sX3_isCell : Cond.static yX3_isCell ∈ wsX1_tellHeight := by decide +kernel
theorem hdSX1_tellHeight : yX1_tellHeight.cls ≠ "java/lang/invoke/MethodHandle" ∧ yX1_tellHeight.cls ≠ "java/lang/invoke/VarHandle" ∧ (parseMethodDescriptor yX1_tellHeight.desc).map (fun d => d.parameters.length) = some 3 := by decide +kernel
set_option maxHeartbeats 4000000 in
set_option maxRecDepth 100000 in
theorem ctX1_tellHeight {l : Launch} {D : va_G} {cI cJ cQ : ClassId} (ad : Nat → Nat) (g : LandT) (v1 : Int32) (v2 : Int32) {res : Int32 × LandT} (h : fX1_tellHeight v1 v2 g = some res) : CtI l D cI cJ cQ yX1_tellHeight wsX1_tellHeight rmX1_tellHeight [.ref (ad 0), .int v1, .int v2] (wLd cI ad g) res.1 (wLd cI ad res.2) := by
  refine ctI_of .boolean (cc := cX1_tellHeight) (maxL := 4) (by decide) rfl (Nat.le_of_ble_eq_true rfl) ?_
  intro p e s m args below meth c A Q ls F hK hA RET hH hl
  obtain ⟨hx, hb, hml, hown, hts⟩ := id F
  have hl : lv_has ls 4 [(0, .ref (ad 0)), (1, .int v1), (2, .int v2)] := hl
  have hf : wpO (fX1_tellHeight v1 v2 g) (fun v => v = res) := ⟨_, h, rfl⟩
  obtain ⟨H, eH⟩ : ∃ H, H = s.heap := ⟨_, rfl⟩
  obtain ⟨locs, eL⟩ : ∃ locs : List Loc, locs = [] := ⟨_, rfl⟩
  have hH : Hs D A s.heap (wLd cI ad g) H locs := by rw [eH, eL]; exact hH
  rw [← eL]
  suffices hgo : W p l e rmX1_tellHeight s m args below meth c H locs 0 0 Q (F0 m 0 ls []) by rw [eH] at hgo; exact hgo
  clear eH eL
  refine lv_iload_n hx hb dX1_tellHeight_0 rfl (lv_at hl 1 rfl) ?_
  obtain ⟨x1, hcl, hf⟩ := wp_b hf
  refine k_Ni F hK hH hA hl.1 ⟨Nat.zero_le _, Nat.zero_le _⟩ [] [.int v1] [] (ctX3_isCell v1 hcl) ⟨va_cnB (host := "LawFromTheTree") 1 hts gX1_tellHeight_X3_isCell_n97 rfl rfl rfl hK.2.2.2.1 (hts _ mbX1_tellHeight_iX3) hdSX3_isCell ⟨Nat.le_of_ble_eq_true rfl, Nat.le_of_ble_eq_true rfl⟩, hts _ mbX1_tellHeight_sX3_isCell, trivial⟩ dX1_tellHeight_1 rfl rfl (Nat.le_of_ble_eq_true rfl) rfl rfl (by decide) (fun H locs hH => ?_)
  have hH : Hs D A s.heap (wLd cI ad g) H locs := hH
  refine lv_istore_n (lv' := [(3, .int x1), (0, .ref (ad 0)), (1, .int v1), (2, .int v2)]) hx hb dX1_tellHeight_4 rfl hl (by decide) rfl (fun ls hl => ?_)
  refine lv_iload_n hx hb dX1_tellHeight_5 rfl (lv_at hl 0 rfl) ?_
  refine lv_if_eq (tgt := 15) hx hb dX1_tellHeight_6 (by decide) (fun hc => ?_) (fun hc => ?_)
  · have hf := wp_t hc hf
    refine lv_iload_n hx hb dX1_tellHeight_15 rfl (lv_at hl 0 rfl) ?_
    obtain ⟨z2, hbo, hf⟩ := wp_b hf
    obtain ⟨hbe, hnb⟩ := bo_narrow hbo
    rw [hbe] at hf
    have hrs := wp_s hf
    subst hrs
    exact RET H locs ls 16 dX1_tellHeight_16 hnb hH
  · have hf := wp_f hc hf
    refine lv_aload_n hx hb dX1_tellHeight_9 rfl (lv_at hl 1 rfl) ?_
    refine lv_iload_n hx hb dX1_tellHeight_10 rfl (lv_at hl 2 rfl) ?_
    refine lv_iload_n hx hb dX1_tellHeight_11 rfl (lv_at hl 3 rfl) ?_
    obtain ⟨x3, hcl, hf⟩ := wp_b hf
    refine k_Vv0 F hK hH hA hl.1 ⟨Nat.zero_le _, Nat.zero_le _⟩ [.int v1, .int v2] [] (ctX0_setHeight ad g v1 v2 hcl) (cwV 2 hts gX1_tellHeight_X0_setHeight rfl rfl rfl hdVX0_setHeight ⟨Nat.le_of_ble_eq_true rfl, Nat.le_of_ble_eq_true rfl⟩) dX1_tellHeight_12 0 rfl rfl rfl rfl rfl (Nat.le_of_ble_eq_true rfl) rfl (fun H locs hH => ?_)
    have hH : Hs D A s.heap (wLd cI ad x3) H locs := hH
    refine lv_iload_n hx hb dX1_tellHeight_15 rfl (lv_at hl 0 rfl) ?_
    obtain ⟨z4, hbo, hf⟩ := wp_b hf
    obtain ⟨hbe, hnb⟩ := bo_narrow hbo
    rw [hbe] at hf
    have hrs := wp_s hf
    subst hrs
    exact RET H locs ls 16 dX1_tellHeight_16 hnb hH

def fX1_tellThing (v1 : Int32) (v2 : Int32) (v3 : Int32) (g : LandT) : Option (Int32 × LandT) :=
  Option.bind (if (7 : Int32) ≤ (gN g) then
      some 0
    else
      Option.bind (fX3_isKind v1) fun x2 =>
      if x2 = 0 then
        some 0
      else
        Option.bind (fX3_isCell v3) fun x3 =>
        if x3 = 0 then
          some 0
        else
          some 1) fun (t1 : Int32) =>
  if t1 = 0 then
    (bo t1).bind fun z4 =>
    some (z4, g)
  else
    Option.bind (fX0_addThing v1 v2 v3 g) fun x5 =>
    (bo t1).bind fun z6 =>
    some (z6, x5)

def rmX1_tellThing : Room := { frames := 2, cells := 0, slots := 0, locals := 42 }
theorem mbX1_tellThing_f107 : Cond.fieldLink RX1 107 (TX0 7).1 (TX0 7).2.1 (TX0 7).2.2.1 ∈ wsX1_tellThing := by decide +kernel
theorem inX1_tellThing_X0 : ∀ w ∈ wsX00, w ∈ wsX1_tellThing := by decide +kernel
theorem mbX1_tellThing_iX3 : Cond.initialized RX3 ∈ wsX1_tellThing := by decide +kernel
theorem mbX1_tellThing_sX3_isKind : Cond.static yX3_isKind ∈ wsX1_tellThing := by decide +kernel
theorem mbX1_tellThing_sX3_isCell : Cond.static yX3_isCell ∈ wsX1_tellThing := by decide +kernel
theorem hdSX1_tellThing : yX1_tellThing.cls ≠ "java/lang/invoke/MethodHandle" ∧ yX1_tellThing.cls ≠ "java/lang/invoke/VarHandle" ∧ (parseMethodDescriptor yX1_tellThing.desc).map (fun d => d.parameters.length) = some 4 := by decide +kernel
set_option maxHeartbeats 4000000 in
set_option maxRecDepth 100000 in
theorem ctX1_tellThing {l : Launch} {D : va_G} {cI cJ cQ : ClassId} (ad : Nat → Nat) (g : LandT) (v1 : Int32) (v2 : Int32) (v3 : Int32) {res : Int32 × LandT} (h : fX1_tellThing v1 v2 v3 g = some res) : CtI l D cI cJ cQ yX1_tellThing wsX1_tellThing rmX1_tellThing [.ref (ad 0), .int v1, .int v2, .int v3] (wLd cI ad g) res.1 (wLd cI ad res.2) := by
  refine ctI_of .boolean (cc := cX1_tellThing) (maxL := 5) (by decide) rfl (Nat.le_of_ble_eq_true rfl) ?_
  intro p e s m args below meth c A Q ls F hK hA RET hH hl
  obtain ⟨hx, hb, hml, hown, hts⟩ := id F
  have hl : lv_has ls 5 [(0, .ref (ad 0)), (1, .int v1), (2, .int v2), (3, .int v3)] := hl
  have hf : wpO (fX1_tellThing v1 v2 v3 g) (fun v => v = res) := ⟨_, h, rfl⟩
  obtain ⟨H, eH⟩ : ∃ H, H = s.heap := ⟨_, rfl⟩
  obtain ⟨locs, eL⟩ : ∃ locs : List Loc, locs = [] := ⟨_, rfl⟩
  have hH : Hs D A s.heap (wLd cI ad g) H locs := by rw [eH, eL]; exact hH
  rw [← eL]
  suffices hgo : W p l e rmX1_tellThing s m args below meth c H locs 0 0 Q (F0 m 0 ls []) by rw [eH] at hgo; exact hgo
  clear eH eL
  refine lv_aload_n hx hb dX1_tellThing_0 rfl (lv_at hl 0 rfl) ?_
  refine k_get (v := .int (gN g)) F hK hH 0 inX1_tellThing_X0 7 mbX1_tellThing_f107 dX1_tellThing_1 rfl rfl (by decide) rfl ?_
  refine lv_bipush (v := 7) hx hb dX1_tellThing_4 (by decide) ?_
  refine join_ (α := Int32) (fun Φ => ∀ (t1 : Int32) (H : Heap) (locs : List Loc) (ls : Array Slot), Φ t1 → Hs D A s.heap (wLd cI ad g) H locs → lv_has ls 5 [(0, .ref (ad 0)), (1, .int v1), (2, .int v2), (3, .int v3)] → W p l e rmX1_tellThing s m args below meth c H locs 0 0 Q (F0 m 28 ls [.int t1])) (wp_bb hf) ?_ ?_
  · intro t1 H locs ls hf hH hl
    refine lv_istore (lv' := [(4, .int t1), (0, .ref (ad 0)), (1, .int v1), (2, .int v2), (3, .int v3)]) hx hb dX1_tellThing_28 hl (by decide) rfl (fun ls hl => ?_)
    refine lv_iload hx hb dX1_tellThing_30 (lv_at hl 0 rfl) ?_
    refine lv_if_eq (tgt := 42) hx hb dX1_tellThing_32 (by decide) (fun hc => ?_) (fun hc => ?_)
    · have hf := wp_t hc hf
      refine lv_iload hx hb dX1_tellThing_42 (lv_at hl 0 rfl) ?_
      obtain ⟨z4, hbo, hf⟩ := wp_b hf
      obtain ⟨hbe, hnb⟩ := bo_narrow hbo
      rw [hbe] at hf
      have hrs := wp_s hf
      subst hrs
      exact RET H locs ls 44 dX1_tellThing_44 hnb hH
    · have hf := wp_f hc hf
      refine lv_aload_n hx hb dX1_tellThing_35 rfl (lv_at hl 1 rfl) ?_
      refine lv_iload_n hx hb dX1_tellThing_36 rfl (lv_at hl 2 rfl) ?_
      refine lv_iload_n hx hb dX1_tellThing_37 rfl (lv_at hl 3 rfl) ?_
      refine lv_iload_n hx hb dX1_tellThing_38 rfl (lv_at hl 4 rfl) ?_
      obtain ⟨x5, hcl, hf⟩ := wp_b hf
      refine k_Vv0 F hK hH hA hl.1 ⟨Nat.zero_le _, Nat.zero_le _⟩ [.int v1, .int v2, .int v3] [] (ctX0_addThing ad g v1 v2 v3 hcl) (cwV 3 hts gX1_tellThing_X0_addThing rfl rfl rfl hdVX0_addThing ⟨Nat.le_of_ble_eq_true rfl, Nat.le_of_ble_eq_true rfl⟩) dX1_tellThing_39 0 rfl rfl rfl rfl rfl (Nat.le_of_ble_eq_true rfl) rfl (fun H locs hH => ?_)
      have hH : Hs D A s.heap (wLd cI ad x5) H locs := hH
      refine lv_iload hx hb dX1_tellThing_42 (lv_at hl 0 rfl) ?_
      obtain ⟨z6, hbo, hf⟩ := wp_b hf
      obtain ⟨hbe, hnb⟩ := bo_narrow hbo
      rw [hbe] at hf
      have hrs := wp_s hf
      subst hrs
      exact RET H locs ls 44 dX1_tellThing_44 hnb hH
  · intro Φ JJ hf
    refine lv_icmp_ge (tgt := 27) hx hb dX1_tellThing_6 (by decide) (fun hc => ?_) (fun hc => ?_)
    · have hf := wp_t hc hf
      refine lv_iconst (v := 0) hx hb dX1_tellThing_27 (by decide) ?_
      have hw := wp_s hf
      exact JJ _ _ _ _ hw hH (lv_sub hl [0, 1, 2, 3] rfl)
    · have hf := wp_f hc hf
      refine lv_iload_n hx hb dX1_tellThing_9 rfl (lv_at hl 1 rfl) ?_
      obtain ⟨x2, hcl, hf⟩ := wp_b hf
      refine k_Ni F hK hH hA hl.1 ⟨Nat.zero_le _, Nat.zero_le _⟩ [] [.int v1] [] (ctX3_isKind v1 hcl) ⟨va_cnB (host := "LawFromTheTree") 1 hts gX1_tellThing_X3_isKind_n110 rfl rfl rfl hK.2.2.2.2.1 (hts _ mbX1_tellThing_iX3) hdSX3_isKind ⟨Nat.le_of_ble_eq_true rfl, Nat.le_of_ble_eq_true rfl⟩, hts _ mbX1_tellThing_sX3_isKind, trivial⟩ dX1_tellThing_10 rfl rfl (Nat.le_of_ble_eq_true rfl) rfl rfl (by decide) (fun H locs hH => ?_)
      have hH : Hs D A s.heap (wLd cI ad g) H locs := hH
      refine lv_if_eq (tgt := 27) hx hb dX1_tellThing_13 (by decide) (fun hc => ?_) (fun hc => ?_)
      · have hf := wp_t hc hf
        refine lv_iconst (v := 0) hx hb dX1_tellThing_27 (by decide) ?_
        have hw := wp_s hf
        exact JJ _ _ _ _ hw hH (lv_sub hl [0, 1, 2, 3] rfl)
      · have hf := wp_f hc hf
        refine lv_iload_n hx hb dX1_tellThing_16 rfl (lv_at hl 3 rfl) ?_
        obtain ⟨x3, hcl, hf⟩ := wp_b hf
        refine k_Ni F hK hH hA hl.1 ⟨Nat.zero_le _, Nat.zero_le _⟩ [] [.int v3] [] (ctX3_isCell v3 hcl) ⟨va_cnB (host := "LawFromTheTree") 1 hts gX1_tellThing_X3_isCell_n97 rfl rfl rfl hK.2.2.2.1 (hts _ mbX1_tellThing_iX3) hdSX3_isCell ⟨Nat.le_of_ble_eq_true rfl, Nat.le_of_ble_eq_true rfl⟩, hts _ mbX1_tellThing_sX3_isCell, trivial⟩ dX1_tellThing_17 rfl rfl (Nat.le_of_ble_eq_true rfl) rfl rfl (by decide) (fun H locs hH => ?_)
        have hH : Hs D A s.heap (wLd cI ad g) H locs := hH
        refine lv_if_eq (tgt := 27) hx hb dX1_tellThing_20 (by decide) (fun hc => ?_) (fun hc => ?_)
        · have hf := wp_t hc hf
          refine lv_iconst (v := 0) hx hb dX1_tellThing_27 (by decide) ?_
          have hw := wp_s hf
          exact JJ _ _ _ _ hw hH (lv_sub hl [0, 1, 2, 3] rfl)
        · have hf := wp_f hc hf
          refine lv_iconst (v := 1) hx hb dX1_tellThing_23 (by decide) ?_
          refine lv_goto (tgt := 28) hx hb dX1_tellThing_24 (by decide) ?_
          have hw := wp_s hf
          exact JJ _ _ _ _ hw hH (lv_sub hl [0, 1, 2, 3] rfl)

def fX1_tellCode (v1 : Int32) (v2 : Int32) (v3 : Int32) (g : LandT) : Option (Int32 × LandT) :=
  Option.bind (fX3_isKind v1) fun x1 =>
  Option.bind (if x1 = 0 then
      some 0
    else
      Option.bind (fX3_isVerdict v2) fun x3 =>
      if x3 = 0 then
        some 0
      else
        some 1) fun (t2 : Int32) =>
  if t2 = 0 then
    (bo t2).bind fun z4 =>
    some (z4, g)
  else
    Option.bind (fX0_decree v1 v2 v3 g) fun x5 =>
    (bo t2).bind fun z6 =>
    some (z6, x5)

def rmX1_tellCode : Room := { frames := 2, cells := 0, slots := 0, locals := 42 }
theorem mbX1_tellCode_iX3 : Cond.initialized RX3 ∈ wsX1_tellCode := by decide +kernel
theorem mbX1_tellCode_sX3_isKind : Cond.static yX3_isKind ∈ wsX1_tellCode := by decide +kernel
theorem mbX1_tellCode_sX3_isVerdict : Cond.static yX3_isVerdict ∈ wsX1_tellCode := by decide +kernel
theorem hdSX1_tellCode : yX1_tellCode.cls ≠ "java/lang/invoke/MethodHandle" ∧ yX1_tellCode.cls ≠ "java/lang/invoke/VarHandle" ∧ (parseMethodDescriptor yX1_tellCode.desc).map (fun d => d.parameters.length) = some 4 := by decide +kernel
set_option maxHeartbeats 4000000 in
set_option maxRecDepth 100000 in
theorem ctX1_tellCode {l : Launch} {D : va_G} {cI cJ cQ : ClassId} (ad : Nat → Nat) (g : LandT) (v1 : Int32) (v2 : Int32) (v3 : Int32) {res : Int32 × LandT} (h : fX1_tellCode v1 v2 v3 g = some res) : CtI l D cI cJ cQ yX1_tellCode wsX1_tellCode rmX1_tellCode [.ref (ad 0), .int v1, .int v2, .int v3] (wLd cI ad g) res.1 (wLd cI ad res.2) := by
  refine ctI_of .boolean (cc := cX1_tellCode) (maxL := 5) (by decide) rfl (Nat.le_of_ble_eq_true rfl) ?_
  intro p e s m args below meth c A Q ls F hK hA RET hH hl
  obtain ⟨hx, hb, hml, hown, hts⟩ := id F
  have hl : lv_has ls 5 [(0, .ref (ad 0)), (1, .int v1), (2, .int v2), (3, .int v3)] := hl
  have hf : wpO (fX1_tellCode v1 v2 v3 g) (fun v => v = res) := ⟨_, h, rfl⟩
  obtain ⟨H, eH⟩ : ∃ H, H = s.heap := ⟨_, rfl⟩
  obtain ⟨locs, eL⟩ : ∃ locs : List Loc, locs = [] := ⟨_, rfl⟩
  have hH : Hs D A s.heap (wLd cI ad g) H locs := by rw [eH, eL]; exact hH
  rw [← eL]
  suffices hgo : W p l e rmX1_tellCode s m args below meth c H locs 0 0 Q (F0 m 0 ls []) by rw [eH] at hgo; exact hgo
  clear eH eL
  refine lv_iload_n hx hb dX1_tellCode_0 rfl (lv_at hl 1 rfl) ?_
  obtain ⟨x1, hcl, hf⟩ := wp_b hf
  refine k_Ni F hK hH hA hl.1 ⟨Nat.zero_le _, Nat.zero_le _⟩ [] [.int v1] [] (ctX3_isKind v1 hcl) ⟨va_cnB (host := "LawFromTheTree") 1 hts gX1_tellCode_X3_isKind_n110 rfl rfl rfl hK.2.2.2.2.1 (hts _ mbX1_tellCode_iX3) hdSX3_isKind ⟨Nat.le_of_ble_eq_true rfl, Nat.le_of_ble_eq_true rfl⟩, hts _ mbX1_tellCode_sX3_isKind, trivial⟩ dX1_tellCode_1 rfl rfl (Nat.le_of_ble_eq_true rfl) rfl rfl (by decide) (fun H locs hH => ?_)
  have hH : Hs D A s.heap (wLd cI ad g) H locs := hH
  refine join_ (α := Int32) (fun Φ => ∀ (t2 : Int32) (H : Heap) (locs : List Loc) (ls : Array Slot), Φ t2 → Hs D A s.heap (wLd cI ad g) H locs → lv_has ls 5 [(0, .ref (ad 0)), (1, .int v1), (2, .int v2), (3, .int v3)] → W p l e rmX1_tellCode s m args below meth c H locs 0 0 Q (F0 m 19 ls [.int t2])) (wp_bb hf) ?_ ?_
  · intro t2 H locs ls hf hH hl
    refine lv_istore (lv' := [(4, .int t2), (0, .ref (ad 0)), (1, .int v1), (2, .int v2), (3, .int v3)]) hx hb dX1_tellCode_19 hl (by decide) rfl (fun ls hl => ?_)
    refine lv_iload hx hb dX1_tellCode_21 (lv_at hl 0 rfl) ?_
    refine lv_if_eq (tgt := 33) hx hb dX1_tellCode_23 (by decide) (fun hc => ?_) (fun hc => ?_)
    · have hf := wp_t hc hf
      refine lv_iload hx hb dX1_tellCode_33 (lv_at hl 0 rfl) ?_
      obtain ⟨z4, hbo, hf⟩ := wp_b hf
      obtain ⟨hbe, hnb⟩ := bo_narrow hbo
      rw [hbe] at hf
      have hrs := wp_s hf
      subst hrs
      exact RET H locs ls 35 dX1_tellCode_35 hnb hH
    · have hf := wp_f hc hf
      refine lv_aload_n hx hb dX1_tellCode_26 rfl (lv_at hl 1 rfl) ?_
      refine lv_iload_n hx hb dX1_tellCode_27 rfl (lv_at hl 2 rfl) ?_
      refine lv_iload_n hx hb dX1_tellCode_28 rfl (lv_at hl 3 rfl) ?_
      refine lv_iload_n hx hb dX1_tellCode_29 rfl (lv_at hl 4 rfl) ?_
      obtain ⟨x5, hcl, hf⟩ := wp_b hf
      refine k_Vv0 F hK hH hA hl.1 ⟨Nat.zero_le _, Nat.zero_le _⟩ [.int v1, .int v2, .int v3] [] (ctX0_decree ad g v1 v2 v3 hcl) (cwV 3 hts gX1_tellCode_X0_decree rfl rfl rfl hdVX0_decree ⟨Nat.le_of_ble_eq_true rfl, Nat.le_of_ble_eq_true rfl⟩) dX1_tellCode_30 0 rfl rfl rfl rfl rfl (Nat.le_of_ble_eq_true rfl) rfl (fun H locs hH => ?_)
      have hH : Hs D A s.heap (wLd cI ad x5) H locs := hH
      refine lv_iload hx hb dX1_tellCode_33 (lv_at hl 0 rfl) ?_
      obtain ⟨z6, hbo, hf⟩ := wp_b hf
      obtain ⟨hbe, hnb⟩ := bo_narrow hbo
      rw [hbe] at hf
      have hrs := wp_s hf
      subst hrs
      exact RET H locs ls 35 dX1_tellCode_35 hnb hH
  · intro Φ JJ hf
    refine lv_if_eq (tgt := 18) hx hb dX1_tellCode_4 (by decide) (fun hc => ?_) (fun hc => ?_)
    · have hf := wp_t hc hf
      refine lv_iconst (v := 0) hx hb dX1_tellCode_18 (by decide) ?_
      have hw := wp_s hf
      exact JJ _ _ _ _ hw hH (lv_sub hl [0, 1, 2, 3] rfl)
    · have hf := wp_f hc hf
      refine lv_iload_n hx hb dX1_tellCode_7 rfl (lv_at hl 2 rfl) ?_
      obtain ⟨x3, hcl, hf⟩ := wp_b hf
      refine k_Ni F hK hH hA hl.1 ⟨Nat.zero_le _, Nat.zero_le _⟩ [] [.int v2] [] (ctX3_isVerdict v2 hcl) ⟨va_cnB (host := "LawFromTheTree") 1 hts gX1_tellCode_X3_isVerdict_n117 rfl rfl rfl hK.2.2.2.2.2.1 (hts _ mbX1_tellCode_iX3) hdSX3_isVerdict ⟨Nat.le_of_ble_eq_true rfl, Nat.le_of_ble_eq_true rfl⟩, hts _ mbX1_tellCode_sX3_isVerdict, trivial⟩ dX1_tellCode_8 rfl rfl (Nat.le_of_ble_eq_true rfl) rfl rfl (by decide) (fun H locs hH => ?_)
      have hH : Hs D A s.heap (wLd cI ad g) H locs := hH
      refine lv_if_eq (tgt := 18) hx hb dX1_tellCode_11 (by decide) (fun hc => ?_) (fun hc => ?_)
      · have hf := wp_t hc hf
        refine lv_iconst (v := 0) hx hb dX1_tellCode_18 (by decide) ?_
        have hw := wp_s hf
        exact JJ _ _ _ _ hw hH (lv_sub hl [0, 1, 2, 3] rfl)
      · have hf := wp_f hc hf
        refine lv_iconst (v := 1) hx hb dX1_tellCode_14 (by decide) ?_
        refine lv_goto (tgt := 19) hx hb dX1_tellCode_15 (by decide) ?_
        have hw := wp_s hf
        exact JJ _ _ _ _ hw hH (lv_sub hl [0, 1, 2, 3] rfl)

def fX1_tellEyes (v1 : Int32) (g : LandT) : Option (Int32 × LandT) :=
  Option.bind (fX3_isWithin v1 0 16) fun x1 =>
  if x1 = 0 then
    (bo x1).bind fun z2 =>
    some (z2, g)
  else
    (bo x1).bind fun z3 =>
    some (z3, (gH g, gR g, gK g, gF g, gP g, gV g, gQ g, gN g, gD g, v1, gT g))

def rmX1_tellEyes : Room := { frames := 1, cells := 0, slots := 0, locals := 22 }
theorem mbX1_tellEyes_iX3 : Cond.initialized RX3 ∈ wsX1_tellEyes := by decide +kernel
theorem mbX1_tellEyes_sX3_isWithin : Cond.static yX3_isWithin ∈ wsX1_tellEyes := by decide +kernel
theorem mbX1_tellEyes_f123 : Cond.fieldLink RX1 123 (TX0 9).1 (TX0 9).2.1 (TX0 9).2.2.1 ∈ wsX1_tellEyes := by decide +kernel
theorem inX1_tellEyes_X0 : ∀ w ∈ wsX00, w ∈ wsX1_tellEyes := by decide +kernel
theorem hdSX1_tellEyes : yX1_tellEyes.cls ≠ "java/lang/invoke/MethodHandle" ∧ yX1_tellEyes.cls ≠ "java/lang/invoke/VarHandle" ∧ (parseMethodDescriptor yX1_tellEyes.desc).map (fun d => d.parameters.length) = some 2 := by decide +kernel
set_option maxHeartbeats 4000000 in
set_option maxRecDepth 100000 in
theorem ctX1_tellEyes {l : Launch} {D : va_G} {cI cJ cQ : ClassId} (ad : Nat → Nat) (g : LandT) (v1 : Int32) {res : Int32 × LandT} (h : fX1_tellEyes v1 g = some res) : CtI l D cI cJ cQ yX1_tellEyes wsX1_tellEyes rmX1_tellEyes [.ref (ad 0), .int v1] (wLd cI ad g) res.1 (wLd cI ad res.2) := by
  refine ctI_of .boolean (cc := cX1_tellEyes) (maxL := 3) (by decide) rfl (Nat.le_of_ble_eq_true rfl) ?_
  intro p e s m args below meth c A Q ls F hK hA RET hH hl
  obtain ⟨hx, hb, hml, hown, hts⟩ := id F
  have hl : lv_has ls 3 [(0, .ref (ad 0)), (1, .int v1)] := hl
  have hf : wpO (fX1_tellEyes v1 g) (fun v => v = res) := ⟨_, h, rfl⟩
  obtain ⟨H, eH⟩ : ∃ H, H = s.heap := ⟨_, rfl⟩
  obtain ⟨locs, eL⟩ : ∃ locs : List Loc, locs = [] := ⟨_, rfl⟩
  have hH : Hs D A s.heap (wLd cI ad g) H locs := by rw [eH, eL]; exact hH
  rw [← eL]
  suffices hgo : W p l e rmX1_tellEyes s m args below meth c H locs 0 0 Q (F0 m 0 ls []) by rw [eH] at hgo; exact hgo
  clear eH eL
  refine lv_iload_n hx hb dX1_tellEyes_0 rfl (lv_at hl 1 rfl) ?_
  refine lv_iconst (v := 0) hx hb dX1_tellEyes_1 (by decide) ?_
  refine lv_bipush (v := 16) hx hb dX1_tellEyes_2 (by decide) ?_
  obtain ⟨x1, hcl, hf⟩ := wp_b hf
  refine k_Ni F hK hH hA hl.1 ⟨Nat.zero_le _, Nat.zero_le _⟩ [] [.int v1, .int 0, .int 16] [] (ctX3_isWithin v1 0 16 hcl) ⟨va_cnB (host := "LawFromTheTree") 3 hts gX1_tellEyes_X3_isWithin_n55 rfl rfl rfl hK.2.2.1 (hts _ mbX1_tellEyes_iX3) hdSX3_isWithin ⟨Nat.le_of_ble_eq_true rfl, Nat.le_of_ble_eq_true rfl⟩, hts _ mbX1_tellEyes_sX3_isWithin, trivial⟩ dX1_tellEyes_4 rfl rfl (Nat.le_of_ble_eq_true rfl) rfl rfl (by decide) (fun H locs hH => ?_)
  have hH : Hs D A s.heap (wLd cI ad g) H locs := hH
  refine lv_istore_n (lv' := [(2, .int x1), (0, .ref (ad 0)), (1, .int v1)]) hx hb dX1_tellEyes_7 rfl hl (by decide) rfl (fun ls hl => ?_)
  refine lv_iload_n hx hb dX1_tellEyes_8 rfl (lv_at hl 0 rfl) ?_
  refine lv_if_eq (tgt := 17) hx hb dX1_tellEyes_9 (by decide) (fun hc => ?_) (fun hc => ?_)
  · have hf := wp_t hc hf
    refine lv_iload_n hx hb dX1_tellEyes_17 rfl (lv_at hl 0 rfl) ?_
    obtain ⟨z2, hbo, hf⟩ := wp_b hf
    obtain ⟨hbe, hnb⟩ := bo_narrow hbo
    rw [hbe] at hf
    have hrs := wp_s hf
    subst hrs
    exact RET H locs ls 18 dX1_tellEyes_18 hnb hH
  · have hf := wp_f hc hf
    refine lv_aload_n hx hb dX1_tellEyes_12 rfl (lv_at hl 1 rfl) ?_
    refine lv_iload_n hx hb dX1_tellEyes_13 rfl (lv_at hl 2 rfl) ?_
    refine k_put (v := .int v1) F hK hH 0 inX1_tellEyes_X0 tyX0 tyX0_ok nmX0 9 mbX1_tellEyes_f123 dX1_tellEyes_14 rfl rfl (by decide) rfl rfl rfl (Nat.le_of_ble_eq_true rfl) (fun H locs hH => ?_)
    have hH : Hs D A s.heap (wLd cI ad (gH g, gR g, gK g, gF g, gP g, gV g, gQ g, gN g, gD g, v1, gT g)) H locs := hH
    refine lv_iload_n hx hb dX1_tellEyes_17 rfl (lv_at hl 0 rfl) ?_
    obtain ⟨z3, hbo, hf⟩ := wp_b hf
    obtain ⟨hbe, hnb⟩ := bo_narrow hbo
    rw [hbe] at hf
    have hrs := wp_s hf
    subst hrs
    exact RET H locs ls 18 dX1_tellEyes_18 hnb hH

def fX1_tellHidden (v1 : Int32) (g : LandT) : Option (Int32 × LandT) :=
  Option.bind (fX0_hasThing v1 g) fun x1 =>
  if x1 = 0 then
    (bo x1).bind fun z2 =>
    some (z2, g)
  else
    Option.bind (fX0_turnHidden v1 g) fun x3 =>
    (bo x1).bind fun z4 =>
    some (z4, x3)

def rmX1_tellHidden : Room := { frames := 2, cells := 0, slots := 0, locals := 43 }
theorem hdSX1_tellHidden : yX1_tellHidden.cls ≠ "java/lang/invoke/MethodHandle" ∧ yX1_tellHidden.cls ≠ "java/lang/invoke/VarHandle" ∧ (parseMethodDescriptor yX1_tellHidden.desc).map (fun d => d.parameters.length) = some 2 := by decide +kernel
set_option maxHeartbeats 4000000 in
set_option maxRecDepth 100000 in
theorem ctX1_tellHidden {l : Launch} {D : va_G} {cI cJ cQ : ClassId} (ad : Nat → Nat) (g : LandT) (v1 : Int32) {res : Int32 × LandT} (h : fX1_tellHidden v1 g = some res) : CtI l D cI cJ cQ yX1_tellHidden wsX1_tellHidden rmX1_tellHidden [.ref (ad 0), .int v1] (wLd cI ad g) res.1 (wLd cI ad res.2) := by
  refine ctI_of .boolean (cc := cX1_tellHidden) (maxL := 3) (by decide) rfl (Nat.le_of_ble_eq_true rfl) ?_
  intro p e s m args below meth c A Q ls F hK hA RET hH hl
  obtain ⟨hx, hb, hml, hown, hts⟩ := id F
  have hl : lv_has ls 3 [(0, .ref (ad 0)), (1, .int v1)] := hl
  have hf : wpO (fX1_tellHidden v1 g) (fun v => v = res) := ⟨_, h, rfl⟩
  obtain ⟨H, eH⟩ : ∃ H, H = s.heap := ⟨_, rfl⟩
  obtain ⟨locs, eL⟩ : ∃ locs : List Loc, locs = [] := ⟨_, rfl⟩
  have hH : Hs D A s.heap (wLd cI ad g) H locs := by rw [eH, eL]; exact hH
  rw [← eL]
  suffices hgo : W p l e rmX1_tellHidden s m args below meth c H locs 0 0 Q (F0 m 0 ls []) by rw [eH] at hgo; exact hgo
  clear eH eL
  refine lv_aload_n hx hb dX1_tellHidden_0 rfl (lv_at hl 0 rfl) ?_
  refine lv_iload_n hx hb dX1_tellHidden_1 rfl (lv_at hl 1 rfl) ?_
  obtain ⟨x1, hcl, hf⟩ := wp_b hf
  refine k_Vi0 F hK hH hA hl.1 ⟨Nat.zero_le _, Nat.zero_le _⟩ [.int v1] [] (ctX0_hasThing ad g v1 hcl) (cwV 1 hts gX1_tellHidden_X0_hasThing rfl rfl rfl hdVX0_hasThing ⟨Nat.le_of_ble_eq_true rfl, Nat.le_of_ble_eq_true rfl⟩) dX1_tellHidden_2 0 rfl rfl rfl rfl rfl (Nat.le_of_ble_eq_true rfl) rfl (fun H locs hH => ?_)
  have hH : Hs D A s.heap (wLd cI ad g) H locs := hH
  refine lv_istore_n (lv' := [(2, .int x1), (0, .ref (ad 0)), (1, .int v1)]) hx hb dX1_tellHidden_5 rfl hl (by decide) rfl (fun ls hl => ?_)
  refine lv_iload_n hx hb dX1_tellHidden_6 rfl (lv_at hl 0 rfl) ?_
  refine lv_if_eq (tgt := 15) hx hb dX1_tellHidden_7 (by decide) (fun hc => ?_) (fun hc => ?_)
  · have hf := wp_t hc hf
    refine lv_iload_n hx hb dX1_tellHidden_15 rfl (lv_at hl 0 rfl) ?_
    obtain ⟨z2, hbo, hf⟩ := wp_b hf
    obtain ⟨hbe, hnb⟩ := bo_narrow hbo
    rw [hbe] at hf
    have hrs := wp_s hf
    subst hrs
    exact RET H locs ls 16 dX1_tellHidden_16 hnb hH
  · have hf := wp_f hc hf
    refine lv_aload_n hx hb dX1_tellHidden_10 rfl (lv_at hl 1 rfl) ?_
    refine lv_iload_n hx hb dX1_tellHidden_11 rfl (lv_at hl 2 rfl) ?_
    obtain ⟨x3, hcl, hf⟩ := wp_b hf
    refine k_Vv0 F hK hH hA hl.1 ⟨Nat.zero_le _, Nat.zero_le _⟩ [.int v1] [] (ctX0_turnHidden ad g v1 hcl) (cwV 1 hts gX1_tellHidden_X0_turnHidden rfl rfl rfl hdVX0_turnHidden ⟨Nat.le_of_ble_eq_true rfl, Nat.le_of_ble_eq_true rfl⟩) dX1_tellHidden_12 0 rfl rfl rfl rfl rfl (Nat.le_of_ble_eq_true rfl) rfl (fun H locs hH => ?_)
    have hH : Hs D A s.heap (wLd cI ad x3) H locs := hH
    refine lv_iload_n hx hb dX1_tellHidden_15 rfl (lv_at hl 0 rfl) ?_
    obtain ⟨z4, hbo, hf⟩ := wp_b hf
    obtain ⟨hbe, hnb⟩ := bo_narrow hbo
    rw [hbe] at hf
    have hrs := wp_s hf
    subst hrs
    exact RET H locs ls 16 dX1_tellHidden_16 hnb hH

def fX1_tellDriven (v1 : Int32) (v2 : Int32) (g : LandT) : Option (Int32 × LandT) :=
  Option.bind (fX0_hasThing v1 g) fun x1 =>
  Option.bind (if x1 = 0 then
      some 0
    else
      Option.bind (fX3_isCell v2) fun x3 =>
      if x3 = 0 then
        some 0
      else
        some 1) fun (t2 : Int32) =>
  if t2 = 0 then
    (bo t2).bind fun z4 =>
    some (z4, g)
  else
    if ob v1 7 then none else
    (bo t2).bind fun z5 =>
    some (z5, (gH g, gR g, gK g, gF g, upd (gP g) (Int32.toNatClampNeg v1) v2, gV g, gQ g, gN g, gD g, gE g, gT g))

def rmX1_tellDriven : Room := { frames := 2, cells := 0, slots := 0, locals := 43 }
theorem mbX1_tellDriven_iX3 : Cond.initialized RX3 ∈ wsX1_tellDriven := by decide +kernel
theorem mbX1_tellDriven_sX3_isCell : Cond.static yX3_isCell ∈ wsX1_tellDriven := by decide +kernel
theorem mbX1_tellDriven_f133 : Cond.fieldLink RX1 133 (TX0 4).1 (TX0 4).2.1 (TX0 4).2.2.1 ∈ wsX1_tellDriven := by decide +kernel
theorem inX1_tellDriven_X0 : ∀ w ∈ wsX00, w ∈ wsX1_tellDriven := by decide +kernel
theorem hdSX1_tellDriven : yX1_tellDriven.cls ≠ "java/lang/invoke/MethodHandle" ∧ yX1_tellDriven.cls ≠ "java/lang/invoke/VarHandle" ∧ (parseMethodDescriptor yX1_tellDriven.desc).map (fun d => d.parameters.length) = some 3 := by decide +kernel
set_option maxHeartbeats 4000000 in
set_option maxRecDepth 100000 in
theorem ctX1_tellDriven {l : Launch} {D : va_G} {cI cJ cQ : ClassId} (ad : Nat → Nat) (g : LandT) (v1 : Int32) (v2 : Int32) {res : Int32 × LandT} (h : fX1_tellDriven v1 v2 g = some res) : CtI l D cI cJ cQ yX1_tellDriven wsX1_tellDriven rmX1_tellDriven [.ref (ad 0), .int v1, .int v2] (wLd cI ad g) res.1 (wLd cI ad res.2) := by
  refine ctI_of .boolean (cc := cX1_tellDriven) (maxL := 4) (by decide) rfl (Nat.le_of_ble_eq_true rfl) ?_
  intro p e s m args below meth c A Q ls F hK hA RET hH hl
  obtain ⟨hx, hb, hml, hown, hts⟩ := id F
  have hl : lv_has ls 4 [(0, .ref (ad 0)), (1, .int v1), (2, .int v2)] := hl
  have hf : wpO (fX1_tellDriven v1 v2 g) (fun v => v = res) := ⟨_, h, rfl⟩
  obtain ⟨H, eH⟩ : ∃ H, H = s.heap := ⟨_, rfl⟩
  obtain ⟨locs, eL⟩ : ∃ locs : List Loc, locs = [] := ⟨_, rfl⟩
  have hH : Hs D A s.heap (wLd cI ad g) H locs := by rw [eH, eL]; exact hH
  rw [← eL]
  suffices hgo : W p l e rmX1_tellDriven s m args below meth c H locs 0 0 Q (F0 m 0 ls []) by rw [eH] at hgo; exact hgo
  clear eH eL
  refine lv_aload_n hx hb dX1_tellDriven_0 rfl (lv_at hl 0 rfl) ?_
  refine lv_iload_n hx hb dX1_tellDriven_1 rfl (lv_at hl 1 rfl) ?_
  obtain ⟨x1, hcl, hf⟩ := wp_b hf
  refine k_Vi0 F hK hH hA hl.1 ⟨Nat.zero_le _, Nat.zero_le _⟩ [.int v1] [] (ctX0_hasThing ad g v1 hcl) (cwV 1 hts gX1_tellDriven_X0_hasThing rfl rfl rfl hdVX0_hasThing ⟨Nat.le_of_ble_eq_true rfl, Nat.le_of_ble_eq_true rfl⟩) dX1_tellDriven_2 0 rfl rfl rfl rfl rfl (Nat.le_of_ble_eq_true rfl) rfl (fun H locs hH => ?_)
  have hH : Hs D A s.heap (wLd cI ad g) H locs := hH
  refine join_ (α := Int32) (fun Φ => ∀ (t2 : Int32) (H : Heap) (locs : List Loc) (ls : Array Slot), Φ t2 → Hs D A s.heap (wLd cI ad g) H locs → lv_has ls 4 [(0, .ref (ad 0)), (1, .int v1), (2, .int v2)] → W p l e rmX1_tellDriven s m args below meth c H locs 0 0 Q (F0 m 20 ls [.int t2])) (wp_bb hf) ?_ ?_
  · intro t2 H locs ls hf hH hl
    refine lv_istore_n (lv' := [(3, .int t2), (0, .ref (ad 0)), (1, .int v1), (2, .int v2)]) hx hb dX1_tellDriven_20 rfl hl (by decide) rfl (fun ls hl => ?_)
    refine lv_iload_n hx hb dX1_tellDriven_21 rfl (lv_at hl 0 rfl) ?_
    refine lv_if_eq (tgt := 32) hx hb dX1_tellDriven_22 (by decide) (fun hc => ?_) (fun hc => ?_)
    · have hf := wp_t hc hf
      refine lv_iload_n hx hb dX1_tellDriven_32 rfl (lv_at hl 0 rfl) ?_
      obtain ⟨z4, hbo, hf⟩ := wp_b hf
      obtain ⟨hbe, hnb⟩ := bo_narrow hbo
      rw [hbe] at hf
      have hrs := wp_s hf
      subst hrs
      exact RET H locs ls 33 dX1_tellDriven_33 hnb hH
    · have hf := wp_f hc hf
      refine lv_aload_n hx hb dX1_tellDriven_25 rfl (lv_at hl 1 rfl) ?_
      refine k_get (v := .ref (ad 5)) F hK hH 0 inX1_tellDriven_X0 4 mbX1_tellDriven_f133 dX1_tellDriven_26 rfl rfl (by decide) rfl ?_
      refine lv_iload_n hx hb dX1_tellDriven_29 rfl (lv_at hl 2 rfl) ?_
      refine lv_iload_n hx hb dX1_tellDriven_30 rfl (lv_at hl 3 rfl) ?_
      obtain ⟨hi, hf⟩ := wp_n hf
      refine k_iast (f := gP g) (n := 7) F hK hH 5 dX1_tellDriven_31 hi rfl (fun H locs hH => ?_)
      have hH : Hs D A s.heap (wLd cI ad (gH g, gR g, gK g, gF g, upd (gP g) (Int32.toNatClampNeg v1) v2, gV g, gQ g, gN g, gD g, gE g, gT g)) H locs := hH
      refine lv_iload_n hx hb dX1_tellDriven_32 rfl (lv_at hl 0 rfl) ?_
      obtain ⟨z5, hbo, hf⟩ := wp_b hf
      obtain ⟨hbe, hnb⟩ := bo_narrow hbo
      rw [hbe] at hf
      have hrs := wp_s hf
      subst hrs
      exact RET H locs ls 33 dX1_tellDriven_33 hnb hH
  · intro Φ JJ hf
    refine lv_if_eq (tgt := 19) hx hb dX1_tellDriven_5 (by decide) (fun hc => ?_) (fun hc => ?_)
    · have hf := wp_t hc hf
      refine lv_iconst (v := 0) hx hb dX1_tellDriven_19 (by decide) ?_
      have hw := wp_s hf
      exact JJ _ _ _ _ hw hH (lv_sub hl [0, 1, 2] rfl)
    · have hf := wp_f hc hf
      refine lv_iload_n hx hb dX1_tellDriven_8 rfl (lv_at hl 2 rfl) ?_
      obtain ⟨x3, hcl, hf⟩ := wp_b hf
      refine k_Ni F hK hH hA hl.1 ⟨Nat.zero_le _, Nat.zero_le _⟩ [] [.int v2] [] (ctX3_isCell v2 hcl) ⟨va_cnB (host := "LawFromTheTree") 1 hts gX1_tellDriven_X3_isCell_n97 rfl rfl rfl hK.2.2.2.1 (hts _ mbX1_tellDriven_iX3) hdSX3_isCell ⟨Nat.le_of_ble_eq_true rfl, Nat.le_of_ble_eq_true rfl⟩, hts _ mbX1_tellDriven_sX3_isCell, trivial⟩ dX1_tellDriven_9 rfl rfl (Nat.le_of_ble_eq_true rfl) rfl rfl (by decide) (fun H locs hH => ?_)
      have hH : Hs D A s.heap (wLd cI ad g) H locs := hH
      refine lv_if_eq (tgt := 19) hx hb dX1_tellDriven_12 (by decide) (fun hc => ?_) (fun hc => ?_)
      · have hf := wp_t hc hf
        refine lv_iconst (v := 0) hx hb dX1_tellDriven_19 (by decide) ?_
        have hw := wp_s hf
        exact JJ _ _ _ _ hw hH (lv_sub hl [0, 1, 2] rfl)
      · have hf := wp_f hc hf
        refine lv_iconst (v := 1) hx hb dX1_tellDriven_15 (by decide) ?_
        refine lv_goto (tgt := 20) hx hb dX1_tellDriven_16 (by decide) ?_
        have hw := wp_s hf
        exact JJ _ _ _ _ hw hH (lv_sub hl [0, 1, 2] rfl)

def fX1_tellHours (v1 : Int32) (g : LandT) : Option (Int32 × LandT) :=
  Option.bind (fX3_isWithin v1 1 (imin 60 (999 - (gT g)))) fun x1 =>
  if x1 = 0 then
    (bo x1).bind fun z2 =>
    some (z2, g)
  else
    Option.bind (fX0_passHours v1 g) fun x3 =>
    (bo x1).bind fun z4 =>
    some (z4, x3)

def rmX1_tellHours : Room := { frames := 3, cells := 0, slots := 0, locals := 66 }
theorem mbX1_tellHours_f136 : Cond.fieldLink RX1 136 (TX0 10).1 (TX0 10).2.1 (TX0 10).2.2.1 ∈ wsX1_tellHours := by decide +kernel
theorem inX1_tellHours_X0 : ∀ w ∈ wsX00, w ∈ wsX1_tellHours := by decide +kernel
theorem mbX1_tellHours_m139 : Cond.methodLink RX1 139 Lib.Math.min.name ∈ wsX1_tellHours := by decide +kernel
theorem mbX1_tellHours_min1 : Cond.static Lib.Math.min.name ∈ wsX1_tellHours := by decide +kernel
theorem mbX1_tellHours_min2 : Cond.initialized "java/lang/Math" ∈ wsX1_tellHours := by decide +kernel
theorem mbX1_tellHours_min3 : Cond.code Lib.Math.min.name Lib.Math.min.code 2 (some .int) ∈ wsX1_tellHours := by decide +kernel
theorem mbX1_tellHours_iX3 : Cond.initialized RX3 ∈ wsX1_tellHours := by decide +kernel
theorem mbX1_tellHours_sX3_isWithin : Cond.static yX3_isWithin ∈ wsX1_tellHours := by decide +kernel
theorem hdSX1_tellHours : yX1_tellHours.cls ≠ "java/lang/invoke/MethodHandle" ∧ yX1_tellHours.cls ≠ "java/lang/invoke/VarHandle" ∧ (parseMethodDescriptor yX1_tellHours.desc).map (fun d => d.parameters.length) = some 2 := by decide +kernel
set_option maxHeartbeats 4000000 in
set_option maxRecDepth 100000 in
theorem ctX1_tellHours {l : Launch} {D : va_G} {cI cJ cQ : ClassId} (ad : Nat → Nat) (g : LandT) (v1 : Int32) {res : Int32 × LandT} (h : fX1_tellHours v1 g = some res) : CtI l D cI cJ cQ yX1_tellHours wsX1_tellHours rmX1_tellHours [.ref (ad 0), .int v1] (wLd cI ad g) res.1 (wLd cI ad res.2) := by
  refine ctI_of .boolean (cc := cX1_tellHours) (maxL := 3) (by decide) rfl (Nat.le_of_ble_eq_true rfl) ?_
  intro p e s m args below meth c A Q ls F hK hA RET hH hl
  obtain ⟨hx, hb, hml, hown, hts⟩ := id F
  have hl : lv_has ls 3 [(0, .ref (ad 0)), (1, .int v1)] := hl
  have hf : wpO (fX1_tellHours v1 g) (fun v => v = res) := ⟨_, h, rfl⟩
  obtain ⟨H, eH⟩ : ∃ H, H = s.heap := ⟨_, rfl⟩
  obtain ⟨locs, eL⟩ : ∃ locs : List Loc, locs = [] := ⟨_, rfl⟩
  have hH : Hs D A s.heap (wLd cI ad g) H locs := by rw [eH, eL]; exact hH
  rw [← eL]
  suffices hgo : W p l e rmX1_tellHours s m args below meth c H locs 0 0 Q (F0 m 0 ls []) by rw [eH] at hgo; exact hgo
  clear eH eL
  refine lv_iload_n hx hb dX1_tellHours_0 rfl (lv_at hl 1 rfl) ?_
  refine lv_iconst (v := 1) hx hb dX1_tellHours_1 (by decide) ?_
  refine lv_bipush (v := 60) hx hb dX1_tellHours_2 (by decide) ?_
  refine lv_sipush (v := 999) hx hb dX1_tellHours_4 (by decide) ?_
  refine lv_aload_n hx hb dX1_tellHours_7 rfl (lv_at hl 0 rfl) ?_
  refine k_get (v := .int (gT g)) F hK hH 0 inX1_tellHours_X0 10 mbX1_tellHours_f136 dX1_tellHours_8 rfl rfl (by decide) rfl ?_
  refine lv_isub hx hb dX1_tellHours_11 ?_
  refine k_min F hl.1 mbX1_tellHours_m139 mbX1_tellHours_min1 mbX1_tellHours_min2 mbX1_tellHours_min3 (Nat.le_of_ble_eq_true rfl) (Nat.le_of_ble_eq_true rfl) ⟨Nat.zero_le _, Nat.zero_le _⟩ dX1_tellHours_12 ?_
  refine W.eq (g2 := F0 m 15 ls [.int (imin 60 (999 - (gT g))), .int 1, .int v1]) rfl ?_
  obtain ⟨x1, hcl, hf⟩ := wp_b hf
  refine k_Ni F hK hH hA hl.1 ⟨Nat.zero_le _, Nat.zero_le _⟩ [] [.int v1, .int 1, .int (imin 60 (999 - (gT g)))] [] (ctX3_isWithin v1 1 (imin 60 (999 - (gT g))) hcl) ⟨va_cnB (host := "LawFromTheTree") 3 hts gX1_tellHours_X3_isWithin_n55 rfl rfl rfl hK.2.2.1 (hts _ mbX1_tellHours_iX3) hdSX3_isWithin ⟨Nat.le_of_ble_eq_true rfl, Nat.le_of_ble_eq_true rfl⟩, hts _ mbX1_tellHours_sX3_isWithin, trivial⟩ dX1_tellHours_15 rfl rfl (Nat.le_of_ble_eq_true rfl) rfl rfl (by decide) (fun H locs hH => ?_)
  have hH : Hs D A s.heap (wLd cI ad g) H locs := hH
  refine lv_istore_n (lv' := [(2, .int x1), (0, .ref (ad 0)), (1, .int v1)]) hx hb dX1_tellHours_18 rfl hl (by decide) rfl (fun ls hl => ?_)
  refine lv_iload_n hx hb dX1_tellHours_19 rfl (lv_at hl 0 rfl) ?_
  refine lv_if_eq (tgt := 28) hx hb dX1_tellHours_20 (by decide) (fun hc => ?_) (fun hc => ?_)
  · have hf := wp_t hc hf
    refine lv_iload_n hx hb dX1_tellHours_28 rfl (lv_at hl 0 rfl) ?_
    obtain ⟨z2, hbo, hf⟩ := wp_b hf
    obtain ⟨hbe, hnb⟩ := bo_narrow hbo
    rw [hbe] at hf
    have hrs := wp_s hf
    subst hrs
    exact RET H locs ls 29 dX1_tellHours_29 hnb hH
  · have hf := wp_f hc hf
    refine lv_aload_n hx hb dX1_tellHours_23 rfl (lv_at hl 1 rfl) ?_
    refine lv_iload_n hx hb dX1_tellHours_24 rfl (lv_at hl 2 rfl) ?_
    obtain ⟨x3, hcl, hf⟩ := wp_b hf
    refine k_Vv0 F hK hH hA hl.1 ⟨Nat.zero_le _, Nat.zero_le _⟩ [.int v1] [] (ctX0_passHours ad g v1 hcl) (cwV 1 hts gX1_tellHours_X0_passHours rfl rfl rfl hdVX0_passHours ⟨Nat.le_of_ble_eq_true rfl, Nat.le_of_ble_eq_true rfl⟩) dX1_tellHours_25 0 rfl rfl rfl rfl rfl (Nat.le_of_ble_eq_true rfl) rfl (fun H locs hH => ?_)
    have hH : Hs D A s.heap (wLd cI ad x3) H locs := hH
    refine lv_iload_n hx hb dX1_tellHours_28 rfl (lv_at hl 0 rfl) ?_
    obtain ⟨z4, hbo, hf⟩ := wp_b hf
    obtain ⟨hbe, hnb⟩ := bo_narrow hbo
    rw [hbe] at hf
    have hrs := wp_s hf
    subst hrs
    exact RET H locs ls 29 dX1_tellHours_29 hnb hH

