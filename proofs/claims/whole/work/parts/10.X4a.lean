def fX4_isIn (v0 : Int32) (v1 : Int32) (v2 : Int32) : Option (Int32) :=
  if v0 < v1 then
    some 0
  else
    if v2 < v0 then
      some 0
    else
      some 1

def rmX4_isIn : Room := { frames := 0, cells := 0, slots := 0, locals := 0 }
theorem hdSX4_isIn : yX4_isIn.cls ≠ "java/lang/invoke/MethodHandle" ∧ yX4_isIn.cls ≠ "java/lang/invoke/VarHandle" ∧ (parseMethodDescriptor yX4_isIn.desc).map (fun d => d.parameters.length) = some 3 := by decide +kernel
set_option maxHeartbeats 4000000 in
set_option maxRecDepth 100000 in
theorem ctX4_isIn {l : Launch} {D : va_G} {cI cJ cQ : ClassId}   (v0 : Int32) (v1 : Int32) (v2 : Int32) {res : Int32} (h : fX4_isIn v0 v1 v2 = some res) : CtI l D cI cJ cQ yX4_isIn wsX4_isIn rmX4_isIn [.int v0, .int v1, .int v2] ([]) res ([]) := by
  refine ctI_of .boolean (cc := cX4_isIn) (maxL := 3) (by decide) rfl (Nat.le_of_ble_eq_true rfl) ?_
  intro p e s m args below meth c A Q ls F hK hA RET hH hl
  obtain ⟨hx, hb, hml, hown, hts⟩ := id F
  have hl : lv_has ls 3 [(0, .int v0), (1, .int v1), (2, .int v2)] := hl
  have hf : wpO (fX4_isIn v0 v1 v2) (fun v => v = res) := ⟨_, h, rfl⟩
  obtain ⟨H, eH⟩ : ∃ H, H = s.heap := ⟨_, rfl⟩
  obtain ⟨locs, eL⟩ : ∃ locs : List Loc, locs = [] := ⟨_, rfl⟩
  have hH : Hs D A s.heap ([]) H locs := by rw [eH, eL]; exact hH
  rw [← eL]
  suffices hgo : W p l e rmX4_isIn s m args below meth c H locs 0 0 Q (F0 m 0 ls []) by rw [eH] at hgo; exact hgo
  clear eH eL
  refine lv_iload_n hx hb dX4_isIn_0 rfl (lv_at hl 0 rfl) ?_
  refine lv_iload_n hx hb dX4_isIn_1 rfl (lv_at hl 1 rfl) ?_
  refine lv_icmp_lt (tgt := 14) hx hb dX4_isIn_2 (by decide) (fun hc => ?_) (fun hc => ?_)
  · have hf := wp_t hc hf
    refine lv_iconst (v := 0) hx hb dX4_isIn_14 (by decide) ?_
    have hrs := wp_s hf
    subst hrs
    exact RET H locs ls 15 dX4_isIn_15 (by show narrow .boolean (.int 0) = .int 0; rfl) hH
  · have hf := wp_f hc hf
    refine lv_iload_n hx hb dX4_isIn_5 rfl (lv_at hl 0 rfl) ?_
    refine lv_iload_n hx hb dX4_isIn_6 rfl (lv_at hl 2 rfl) ?_
    refine lv_icmp_gt (tgt := 14) hx hb dX4_isIn_7 (by decide) (fun hc => ?_) (fun hc => ?_)
    · have hf := wp_t hc hf
      refine lv_iconst (v := 0) hx hb dX4_isIn_14 (by decide) ?_
      have hrs := wp_s hf
      subst hrs
      exact RET H locs ls 15 dX4_isIn_15 (by show narrow .boolean (.int 0) = .int 0; rfl) hH
    · have hf := wp_f hc hf
      refine lv_iconst (v := 1) hx hb dX4_isIn_10 (by decide) ?_
      refine lv_goto (tgt := 15) hx hb dX4_isIn_11 (by decide) ?_
      have hrs := wp_s hf
      subst hrs
      exact RET H locs ls 15 dX4_isIn_15 (by show narrow .boolean (.int 1) = .int 1; rfl) hH

def bX4_copies_2 (r : (Nat → Int32)) : (Int32 × (Nat → Int32)) → Option ((Int32 × (Nat → Int32)) ⊕ ((Nat → Int32))) := fun ((t1, t2) : Int32 × (Nat → Int32)) =>
  if (53 : Int32) ≤ t1 then
    some (.inr t2)
  else
    if ob t1 53 then none else
    if ob t1 53 then none else
    some (.inl (t1 + 1, upd t2 (Int32.toNatClampNeg t1) (r (Int32.toNatClampNeg t1))))

def fX4_copies (r : (Nat → Int32)) (r2 : (Nat → Int32)) : Option ((Nat → Int32)) :=
  Option.bind (lp (bX4_copies_2 r) fu (0, r2)) fun (t3 : (Nat → Int32)) =>
  some t3

def rmX4_copies : Room := { frames := 0, cells := 0, slots := 0, locals := 0 }
theorem hdSX4_copies : yX4_copies.cls ≠ "java/lang/invoke/MethodHandle" ∧ yX4_copies.cls ≠ "java/lang/invoke/VarHandle" ∧ (parseMethodDescriptor yX4_copies.desc).map (fun d => d.parameters.length) = some 2 := by decide +kernel
set_option maxHeartbeats 4000000 in
set_option maxRecDepth 100000 in
theorem ctX4_copies {l : Launch} {D : va_G} {cI cJ cQ : ClassId} (da : Nat) (db : Nat) (r : (Nat → Int32)) (r2 : (Nat → Int32))  {res : (Nat → Int32)} (h : fX4_copies r r2 = some res) : CtV l D cI cJ cQ yX4_copies wsX4_copies rmX4_copies [.ref da, .ref db] (wAr cI da 53 r ++ wAr cI db 53 r2) (wAr cI da 53 r ++ wAr cI db 53 res) := by
  refine ctV_of (cc := cX4_copies) (maxL := 3) (by decide) rfl (Nat.le_of_ble_eq_true rfl) ?_
  intro p e s m args below meth c A Q ls F hK hA RET hH hl
  obtain ⟨hx, hb, hml, hown, hts⟩ := id F
  have hl : lv_has ls 3 [(0, .ref da), (1, .ref db)] := hl
  have hf : wpO (fX4_copies r r2) (fun v => v = res) := ⟨_, h, rfl⟩
  obtain ⟨H, eH⟩ : ∃ H, H = s.heap := ⟨_, rfl⟩
  obtain ⟨locs, eL⟩ : ∃ locs : List Loc, locs = [] := ⟨_, rfl⟩
  have hH : Hs D A s.heap (wAr cI da 53 r ++ wAr cI db 53 r2) H locs := by rw [eH, eL]; exact hH
  rw [← eL]
  suffices hgo : W p l e rmX4_copies s m args below meth c H locs 0 0 Q (F0 m 0 ls []) by rw [eH] at hgo; exact hgo
  clear eH eL
  refine lv_iconst (v := 0) hx hb dX4_copies_0 (by decide) ?_
  refine lv_istore_n (lv' := [(2, .int 0), (0, .ref da), (1, .ref db)]) hx hb dX4_copies_1 rfl hl (by decide) rfl (fun ls hl => ?_)
  have LP : ∀ (Φ : ((Nat → Int32)) → Prop), (∀ (t3 : (Nat → Int32)) (H : Heap) (locs : List Loc) (ls : Array Slot), Φ (t3) → Hs D A s.heap (wAr cI da 53 r ++ wAr cI db 53 t3) H locs → lv_has ls 3 [] → W p l e rmX4_copies s m args below meth c H locs 0 0 Q (F0 m 20 ls [])) → ∀ (n : Nat) (t1 : Int32) (t2 : (Nat → Int32)) (H : Heap) (locs : List Loc) (ls : Array Slot), wpO (lp (bX4_copies_2 r) n (t1, t2)) Φ → Hs D A s.heap (wAr cI da 53 r ++ wAr cI db 53 t2) H locs → lv_has ls 3 [(0, .ref da), (1, .ref db), (2, .int t1)] → W p l e rmX4_copies s m args below meth c H locs 0 0 Q (F0 m 2 ls []) := by
    intro Φ EX n
    induction n with
    | zero =>
      intro t1 t2 H locs ls hf hH hl
      exact (wp_l0 hf).elim
    | succ n ih =>
      intro t1 t2 H locs ls hf hH hl
      have hf := wp_l hf
      refine lv_iload_n hx hb dX4_copies_2 rfl (lv_at hl 2 rfl) ?_
      refine lv_bipush (v := 53) hx hb dX4_copies_3 (by decide) ?_
      refine lv_icmp_ge (tgt := 20) hx hb dX4_copies_5 (by decide) (fun hc => ?_) (fun hc => ?_)
      · have hf := wp_t hc hf
        have hw := wp_out hf
        exact EX _ _ _ _ hw hH (lv_sub hl [] rfl)
      · have hf := wp_f hc hf
        refine lv_aload_n hx hb dX4_copies_8 rfl (lv_at hl 1 rfl) ?_
        refine lv_iload_n hx hb dX4_copies_9 rfl (lv_at hl 2 rfl) ?_
        refine lv_aload_n hx hb dX4_copies_10 rfl (lv_at hl 0 rfl) ?_
        refine lv_iload_n hx hb dX4_copies_11 rfl (lv_at hl 2 rfl) ?_
        obtain ⟨hi, hf⟩ := wp_n hf
        refine k_iald (f := r) (n := 53) F hK hH 0 dX4_copies_12 hi rfl ?_
        obtain ⟨hi, hf⟩ := wp_n hf
        refine k_iast (f := t2) (n := 53) F hK hH 1 dX4_copies_13 hi rfl (fun H locs hH => ?_)
        have hH : Hs D A s.heap (wAr cI da 53 r ++ wAr cI db 53 (upd t2 (Int32.toNatClampNeg t1) (r (Int32.toNatClampNeg t1)))) H locs := hH
        refine lv_iinc (v := t1 + 1) (lv' := [(2, .int (t1 + 1)), (0, .ref da), (1, .ref db)]) hx hb dX4_copies_14 hl (k := 2) rfl rfl (by decide) rfl (fun ls hl => ?_)
        refine lv_goto (tgt := 2) hx hb dX4_copies_17 (by decide) ?_
        have hw := wp_in hf
        exact ih _ _ _ _ _ hw hH (lv_sub hl [1, 2, 0] rfl)
  refine LP _ (fun t3 H locs ls hf hH hl => ?_) fu _ _ _ _ _ (wp_bb hf) hH (lv_sub hl [1, 2, 0] rfl)
  have hrs := wp_s hf
  subst hrs
  exact RET H locs ls 20 dX4_copies_20 hH

def fX4_no (v1 : Int32) (xe : (Nat → Int32)) : Option (Int32 × (Nat → Int32)) :=
  if ob (-v1) 7 then none else
  if ob (-v1) 7 then none else
  some (v1, upd xe (Int32.toNatClampNeg (-v1)) ((xe (Int32.toNatClampNeg (-v1))) + 1))

def rmX4_no : Room := { frames := 0, cells := 0, slots := 0, locals := 0 }
theorem mbX4_no_f28 : Cond.fieldLink RX4 28 (TX4 7).1 (TX4 7).2.1 (TX4 7).2.2.1 ∈ wsX4_no := by decide +kernel
theorem inX4_no_X4 : ∀ w ∈ wsX40, w ∈ wsX4_no := by decide +kernel
theorem hdVX4_no : yX4_no.cls = RX4 ∧ yX4_no.cls ≠ "java/lang/invoke/MethodHandle" ∧ yX4_no.cls ≠ "java/lang/invoke/VarHandle" ∧ (parseMethodDescriptor yX4_no.desc).map (fun d => d.parameters.length) = some 1 := by decide +kernel
set_option maxHeartbeats 4000000 in
set_option maxRecDepth 100000 in
theorem ctX4_no {l : Launch} {D : va_G} {cI cJ cQ : ClassId} (ad : Nat → Nat) (xs : (Nat → Int32)) (xm : (Nat → Int32)) (xi : (Nat → Int32)) (xw : (Nat → Int32)) (xh : Int32) (xl : (Nat → Int32)) (xr : (Nat → Int32)) (xe : (Nat → Int32)) (xn : Int32) (xo : Int32) (xp : Int32) (xu : (Nat → Int32)) (xd : Int32) (v1 : Int32) {res : Int32 × (Nat → Int32)} (h : fX4_no v1 xe = some res) : CtI l D cI cJ cQ yX4_no wsX4_no rmX4_no [.ref (ad 0), .int v1] (wMd cI ad xs xm xi xw xh xl xr xe xn xo xp xu xd) res.1 (wMd cI ad xs xm xi xw xh xl xr res.2 xn xo xp xu xd) := by
  refine ctI_of .int (cc := cX4_no) (maxL := 2) (by decide) rfl (Nat.le_of_ble_eq_true rfl) ?_
  intro p e s m args below meth c A Q ls F hK hA RET hH hl
  obtain ⟨hx, hb, hml, hown, hts⟩ := id F
  have hl : lv_has ls 2 [(0, .ref (ad 0)), (1, .int v1)] := hl
  have hf : wpO (fX4_no v1 xe) (fun v => v = res) := ⟨_, h, rfl⟩
  obtain ⟨H, eH⟩ : ∃ H, H = s.heap := ⟨_, rfl⟩
  obtain ⟨locs, eL⟩ : ∃ locs : List Loc, locs = [] := ⟨_, rfl⟩
  have hH : Hs D A s.heap (wMd cI ad xs xm xi xw xh xl xr xe xn xo xp xu xd) H locs := by rw [eH, eL]; exact hH
  rw [← eL]
  suffices hgo : W p l e rmX4_no s m args below meth c H locs 0 0 Q (F0 m 0 ls []) by rw [eH] at hgo; exact hgo
  clear eH eL
  refine lv_aload_n hx hb dX4_no_0 rfl (lv_at hl 0 rfl) ?_
  refine k_get (v := .ref (ad 7)) F hK hH 0 inX4_no_X4 7 mbX4_no_f28 dX4_no_1 rfl rfl (by decide) rfl ?_
  refine lv_iload_n hx hb dX4_no_4 rfl (lv_at hl 1 rfl) ?_
  refine lv_ineg hx hb dX4_no_5 ?_
  refine lv_dup2_11 hx hb dX4_no_6 rfl rfl ?_
  obtain ⟨hi, hf⟩ := wp_n hf
  refine k_iald (f := xe) (n := 7) F hK hH 7 dX4_no_7 hi rfl ?_
  refine lv_iconst (v := 1) hx hb dX4_no_8 (by decide) ?_
  refine lv_iadd hx hb dX4_no_9 ?_
  obtain ⟨hi, hf⟩ := wp_n hf
  refine k_iast (f := xe) (n := 7) F hK hH 7 dX4_no_10 hi rfl (fun H locs hH => ?_)
  have hH : Hs D A s.heap (wMd cI ad xs xm xi xw xh xl xr (upd xe (Int32.toNatClampNeg (-v1)) ((xe (Int32.toNatClampNeg (-v1))) + 1)) xn xo xp xu xd) H locs := hH
  refine lv_iload_n hx hb dX4_no_11 rfl (lv_at hl 1 rfl) ?_
  have hrs := wp_s hf
  subst hrs
  exact RET H locs ls 12 dX4_no_12 rfl hH

def fX4_noWide (v1 : Int32) (xe : (Nat → Int32)) : Option (Int64 × (Nat → Int32)) :=
  Option.bind (fX4_no v1 xe) fun x1 =>
  some (4000000000000000000 - (Int32.toInt64 x1.1), x1.2)

def rmX4_noWide : Room := { frames := 1, cells := 0, slots := 0, locals := 21 }
theorem mbX4_noWide_c34 : Cond.constantLong RX4 34 4000000000000000000 ∈ wsX4_noWide := by decide +kernel
theorem hdVX4_noWide : yX4_noWide.cls = RX4 ∧ yX4_noWide.cls ≠ "java/lang/invoke/MethodHandle" ∧ yX4_noWide.cls ≠ "java/lang/invoke/VarHandle" ∧ (parseMethodDescriptor yX4_noWide.desc).map (fun d => d.parameters.length) = some 1 := by decide +kernel
set_option maxHeartbeats 4000000 in
set_option maxRecDepth 100000 in
theorem ctX4_noWide {l : Launch} {D : va_G} {cI cJ cQ : ClassId} (ad : Nat → Nat) (xs : (Nat → Int32)) (xm : (Nat → Int32)) (xi : (Nat → Int32)) (xw : (Nat → Int32)) (xh : Int32) (xl : (Nat → Int32)) (xr : (Nat → Int32)) (xe : (Nat → Int32)) (xn : Int32) (xo : Int32) (xp : Int32) (xu : (Nat → Int32)) (xd : Int32) (v1 : Int32) {res : Int64 × (Nat → Int32)} (h : fX4_noWide v1 xe = some res) : CtL l D cI cJ cQ yX4_noWide wsX4_noWide rmX4_noWide [.ref (ad 0), .int v1] (wMd cI ad xs xm xi xw xh xl xr xe xn xo xp xu xd) res.1 (wMd cI ad xs xm xi xw xh xl xr res.2 xn xo xp xu xd) := by
  refine ctL_of (cc := cX4_noWide) (maxL := 2) (by decide) rfl (Nat.le_of_ble_eq_true rfl) ?_
  intro p e s m args below meth c A Q ls F hK hA RET hH hl
  obtain ⟨hx, hb, hml, hown, hts⟩ := id F
  have hl : lv_has ls 2 [(0, .ref (ad 0)), (1, .int v1)] := hl
  have hf : wpO (fX4_noWide v1 xe) (fun v => v = res) := ⟨_, h, rfl⟩
  obtain ⟨H, eH⟩ : ∃ H, H = s.heap := ⟨_, rfl⟩
  obtain ⟨locs, eL⟩ : ∃ locs : List Loc, locs = [] := ⟨_, rfl⟩
  have hH : Hs D A s.heap (wMd cI ad xs xm xi xw xh xl xr xe xn xo xp xu xd) H locs := by rw [eH, eL]; exact hH
  rw [← eL]
  suffices hgo : W p l e rmX4_noWide s m args below meth c H locs 0 0 Q (F0 m 0 ls []) by rw [eH] at hgo; exact hgo
  clear eH eL
  refine lv_ldc2 (v := 4000000000000000000) hx hb hown (hts _ mbX4_noWide_c34) dX4_noWide_0 ?_
  refine lv_aload_n hx hb dX4_noWide_3 rfl (lv_at hl 0 rfl) ?_
  refine lv_iload_n hx hb dX4_noWide_4 rfl (lv_at hl 1 rfl) ?_
  obtain ⟨x1, hcl, hf⟩ := wp_b hf
  refine k_Vi0 F hK hH hA hl.1 ⟨Nat.zero_le _, Nat.zero_le _⟩ [.int v1] [.long 4000000000000000000] (ctX4_no ad xs xm xi xw xh xl xr xe xn xo xp xu xd v1 hcl) (cwV 1 hts gX4_noWide_X4_no rfl rfl rfl hdVX4_no ⟨Nat.le_of_ble_eq_true rfl, Nat.le_of_ble_eq_true rfl⟩) dX4_noWide_5 0 rfl rfl rfl rfl rfl (Nat.le_of_ble_eq_true rfl) rfl (fun H locs hH => ?_)
  have hH : Hs D A s.heap (wMd cI ad xs xm xi xw xh xl xr x1.2 xn xo xp xu xd) H locs := hH
  refine W.eq (g2 := F0 m 8 ls [.int x1.1, .long 4000000000000000000]) rfl ?_
  refine lv_i2l (v := Int32.toInt64 x1.1) hx hb dX4_noWide_8 rfl ?_
  refine lv_lsub hx hb dX4_noWide_9 ?_
  have hrs := wp_s hf
  subst hrs
  exact RET H locs ls 10 dX4_noWide_10 hH

def fX4_of (v0 : Int32) (v1 : Int32) : Option (Int32) :=
  some ((32 + (3 * v0)) + v1)

def rmX4_of : Room := { frames := 0, cells := 0, slots := 0, locals := 0 }
theorem hdSX4_of : yX4_of.cls ≠ "java/lang/invoke/MethodHandle" ∧ yX4_of.cls ≠ "java/lang/invoke/VarHandle" ∧ (parseMethodDescriptor yX4_of.desc).map (fun d => d.parameters.length) = some 2 := by decide +kernel
set_option maxHeartbeats 4000000 in
set_option maxRecDepth 100000 in
theorem ctX4_of {l : Launch} {D : va_G} {cI cJ cQ : ClassId}   (v0 : Int32) (v1 : Int32) {res : Int32} (h : fX4_of v0 v1 = some res) : CtI l D cI cJ cQ yX4_of wsX4_of rmX4_of [.int v0, .int v1] ([]) res ([]) := by
  refine ctI_of .int (cc := cX4_of) (maxL := 2) (by decide) rfl (Nat.le_of_ble_eq_true rfl) ?_
  intro p e s m args below meth c A Q ls F hK hA RET hH hl
  obtain ⟨hx, hb, hml, hown, hts⟩ := id F
  have hl : lv_has ls 2 [(0, .int v0), (1, .int v1)] := hl
  have hf : wpO (fX4_of v0 v1) (fun v => v = res) := ⟨_, h, rfl⟩
  obtain ⟨H, eH⟩ : ∃ H, H = s.heap := ⟨_, rfl⟩
  obtain ⟨locs, eL⟩ : ∃ locs : List Loc, locs = [] := ⟨_, rfl⟩
  have hH : Hs D A s.heap ([]) H locs := by rw [eH, eL]; exact hH
  rw [← eL]
  suffices hgo : W p l e rmX4_of s m args below meth c H locs 0 0 Q (F0 m 0 ls []) by rw [eH] at hgo; exact hgo
  clear eH eL
  refine lv_bipush (v := 32) hx hb dX4_of_0 (by decide) ?_
  refine lv_iconst (v := 3) hx hb dX4_of_2 (by decide) ?_
  refine lv_iload_n hx hb dX4_of_3 rfl (lv_at hl 0 rfl) ?_
  refine lv_imul hx hb dX4_of_4 ?_
  refine lv_iadd hx hb dX4_of_5 ?_
  refine lv_iload_n hx hb dX4_of_6 rfl (lv_at hl 1 rfl) ?_
  refine lv_iadd hx hb dX4_of_7 ?_
  have hrs := wp_s hf
  subst hrs
  exact RET H locs ls 8 dX4_of_8 rfl hH

def fX4_isThing (v1 : Int32) (xs : (Nat → Int32)) : Option (Int32) :=
  Option.bind (fX4_isIn v1 0 ((xs (Int32.toNatClampNeg 0)) - 1)) fun x1 =>
  (bo x1).bind fun z2 =>
  some z2

def rmX4_isThing : Room := { frames := 1, cells := 0, slots := 0, locals := 22 }
theorem mbX4_isThing_f9 : Cond.fieldLink RX4 9 (TX4 0).1 (TX4 0).2.1 (TX4 0).2.2.1 ∈ wsX4_isThing := by decide +kernel
theorem inX4_isThing_X4 : ∀ w ∈ wsX40, w ∈ wsX4_isThing := by decide +kernel
theorem hdVX4_isThing : yX4_isThing.cls = RX4 ∧ yX4_isThing.cls ≠ "java/lang/invoke/MethodHandle" ∧ yX4_isThing.cls ≠ "java/lang/invoke/VarHandle" ∧ (parseMethodDescriptor yX4_isThing.desc).map (fun d => d.parameters.length) = some 1 := by decide +kernel
set_option maxHeartbeats 4000000 in
set_option maxRecDepth 100000 in
theorem ctX4_isThing {l : Launch} {D : va_G} {cI cJ cQ : ClassId} (ad : Nat → Nat) (xs : (Nat → Int32)) (xm : (Nat → Int32)) (xi : (Nat → Int32)) (xw : (Nat → Int32)) (xh : Int32) (xl : (Nat → Int32)) (xr : (Nat → Int32)) (xe : (Nat → Int32)) (xn : Int32) (xo : Int32) (xp : Int32) (xu : (Nat → Int32)) (xd : Int32) (v1 : Int32) {res : Int32} (h : fX4_isThing v1 xs = some res) : CtI l D cI cJ cQ yX4_isThing wsX4_isThing rmX4_isThing [.ref (ad 0), .int v1] (wMd cI ad xs xm xi xw xh xl xr xe xn xo xp xu xd) res (wMd cI ad xs xm xi xw xh xl xr xe xn xo xp xu xd) := by
  refine ctI_of .boolean (cc := cX4_isThing) (maxL := 2) (by decide) rfl (Nat.le_of_ble_eq_true rfl) ?_
  intro p e s m args below meth c A Q ls F hK hA RET hH hl
  obtain ⟨hx, hb, hml, hown, hts⟩ := id F
  have hl : lv_has ls 2 [(0, .ref (ad 0)), (1, .int v1)] := hl
  have hf : wpO (fX4_isThing v1 xs) (fun v => v = res) := ⟨_, h, rfl⟩
  obtain ⟨H, eH⟩ : ∃ H, H = s.heap := ⟨_, rfl⟩
  obtain ⟨locs, eL⟩ : ∃ locs : List Loc, locs = [] := ⟨_, rfl⟩
  have hH : Hs D A s.heap (wMd cI ad xs xm xi xw xh xl xr xe xn xo xp xu xd) H locs := by rw [eH, eL]; exact hH
  rw [← eL]
  suffices hgo : W p l e rmX4_isThing s m args below meth c H locs 0 0 Q (F0 m 0 ls []) by rw [eH] at hgo; exact hgo
  clear eH eL
  refine lv_iload_n hx hb dX4_isThing_0 rfl (lv_at hl 1 rfl) ?_
  refine lv_iconst (v := 0) hx hb dX4_isThing_1 (by decide) ?_
  refine lv_aload_n hx hb dX4_isThing_2 rfl (lv_at hl 0 rfl) ?_
  refine k_get (v := .ref (ad 1)) F hK hH 0 inX4_isThing_X4 0 mbX4_isThing_f9 dX4_isThing_3 rfl rfl (by decide) rfl ?_
  refine lv_iconst (v := 0) hx hb dX4_isThing_6 (by decide) ?_
  refine k_iald (f := xs) (n := 53) F hK hH 1 dX4_isThing_7 (by decide) rfl ?_
  refine lv_iconst (v := 1) hx hb dX4_isThing_8 (by decide) ?_
  refine lv_isub hx hb dX4_isThing_9 ?_
  obtain ⟨x1, hcl, hf⟩ := wp_b hf
  refine k_Si F hK hH hA hl.1 ⟨Nat.zero_le _, Nat.zero_le _⟩ [] [.int v1, .int 0, .int ((xs (Int32.toNatClampNeg 0)) - 1)] [] (ctX4_isIn v1 0 ((xs (Int32.toNatClampNeg 0)) - 1) hcl) (va_cwS 3 hts gX4_isThing_X4_isIn rfl rfl rfl hdSX4_isIn ⟨Nat.le_of_ble_eq_true rfl, Nat.le_of_ble_eq_true rfl⟩) dX4_isThing_10 rfl rfl (Nat.le_of_ble_eq_true rfl) rfl rfl (by decide) (fun H locs hH => ?_)
  have hH : Hs D A s.heap (wMd cI ad xs xm xi xw xh xl xr xe xn xo xp xu xd) H locs := hH
  obtain ⟨z2, hbo, hf⟩ := wp_b hf
  obtain ⟨hbe, hnb⟩ := bo_narrow hbo
  rw [hbe] at hf
  have hrs := wp_s hf
  subst hrs
  exact RET H locs ls 13 dX4_isThing_13 hnb hH

def fX4_isCell (v0 : Int32) : Option (Int32) :=
  Option.bind (fX4_isIn v0 0 15) fun x1 =>
  (bo x1).bind fun z2 =>
  some z2

def rmX4_isCell : Room := { frames := 1, cells := 0, slots := 0, locals := 22 }
theorem hdSX4_isCell : yX4_isCell.cls ≠ "java/lang/invoke/MethodHandle" ∧ yX4_isCell.cls ≠ "java/lang/invoke/VarHandle" ∧ (parseMethodDescriptor yX4_isCell.desc).map (fun d => d.parameters.length) = some 1 := by decide +kernel
set_option maxHeartbeats 4000000 in
set_option maxRecDepth 100000 in
theorem ctX4_isCell {l : Launch} {D : va_G} {cI cJ cQ : ClassId}   (v0 : Int32) {res : Int32} (h : fX4_isCell v0 = some res) : CtI l D cI cJ cQ yX4_isCell wsX4_isCell rmX4_isCell [.int v0] ([]) res ([]) := by
  refine ctI_of .boolean (cc := cX4_isCell) (maxL := 1) (by decide) rfl (Nat.le_of_ble_eq_true rfl) ?_
  intro p e s m args below meth c A Q ls F hK hA RET hH hl
  obtain ⟨hx, hb, hml, hown, hts⟩ := id F
  have hl : lv_has ls 1 [(0, .int v0)] := hl
  have hf : wpO (fX4_isCell v0) (fun v => v = res) := ⟨_, h, rfl⟩
  obtain ⟨H, eH⟩ : ∃ H, H = s.heap := ⟨_, rfl⟩
  obtain ⟨locs, eL⟩ : ∃ locs : List Loc, locs = [] := ⟨_, rfl⟩
  have hH : Hs D A s.heap ([]) H locs := by rw [eH, eL]; exact hH
  rw [← eL]
  suffices hgo : W p l e rmX4_isCell s m args below meth c H locs 0 0 Q (F0 m 0 ls []) by rw [eH] at hgo; exact hgo
  clear eH eL
  refine lv_iload_n hx hb dX4_isCell_0 rfl (lv_at hl 0 rfl) ?_
  refine lv_iconst (v := 0) hx hb dX4_isCell_1 (by decide) ?_
  refine lv_bipush (v := 15) hx hb dX4_isCell_2 (by decide) ?_
  obtain ⟨x1, hcl, hf⟩ := wp_b hf
  refine k_Si F hK hH hA hl.1 ⟨Nat.zero_le _, Nat.zero_le _⟩ [] [.int v0, .int 0, .int 15] [] (ctX4_isIn v0 0 15 hcl) (va_cwS 3 hts gX4_isCell_X4_isIn rfl rfl rfl hdSX4_isIn ⟨Nat.le_of_ble_eq_true rfl, Nat.le_of_ble_eq_true rfl⟩) dX4_isCell_4 rfl rfl (Nat.le_of_ble_eq_true rfl) rfl rfl (by decide) (fun H locs hH => ?_)
  have hH : Hs D A s.heap ([]) H locs := hH
  obtain ⟨z2, hbo, hf⟩ := wp_b hf
  obtain ⟨hbe, hnb⟩ := bo_narrow hbo
  rw [hbe] at hf
  have hrs := wp_s hf
  subst hrs
  exact RET H locs ls 7 dX4_isCell_7 hnb hH

def fX4_isBranch (v0 : Int32) : Option (Int32) :=
  Option.bind (fX4_isIn v0 0 9) fun x1 =>
  (bo x1).bind fun z2 =>
  some z2

def rmX4_isBranch : Room := { frames := 1, cells := 0, slots := 0, locals := 22 }
theorem hdSX4_isBranch : yX4_isBranch.cls ≠ "java/lang/invoke/MethodHandle" ∧ yX4_isBranch.cls ≠ "java/lang/invoke/VarHandle" ∧ (parseMethodDescriptor yX4_isBranch.desc).map (fun d => d.parameters.length) = some 1 := by decide +kernel
set_option maxHeartbeats 4000000 in
set_option maxRecDepth 100000 in
theorem ctX4_isBranch {l : Launch} {D : va_G} {cI cJ cQ : ClassId}   (v0 : Int32) {res : Int32} (h : fX4_isBranch v0 = some res) : CtI l D cI cJ cQ yX4_isBranch wsX4_isBranch rmX4_isBranch [.int v0] ([]) res ([]) := by
  refine ctI_of .boolean (cc := cX4_isBranch) (maxL := 1) (by decide) rfl (Nat.le_of_ble_eq_true rfl) ?_
  intro p e s m args below meth c A Q ls F hK hA RET hH hl
  obtain ⟨hx, hb, hml, hown, hts⟩ := id F
  have hl : lv_has ls 1 [(0, .int v0)] := hl
  have hf : wpO (fX4_isBranch v0) (fun v => v = res) := ⟨_, h, rfl⟩
  obtain ⟨H, eH⟩ : ∃ H, H = s.heap := ⟨_, rfl⟩
  obtain ⟨locs, eL⟩ : ∃ locs : List Loc, locs = [] := ⟨_, rfl⟩
  have hH : Hs D A s.heap ([]) H locs := by rw [eH, eL]; exact hH
  rw [← eL]
  suffices hgo : W p l e rmX4_isBranch s m args below meth c H locs 0 0 Q (F0 m 0 ls []) by rw [eH] at hgo; exact hgo
  clear eH eL
  refine lv_iload_n hx hb dX4_isBranch_0 rfl (lv_at hl 0 rfl) ?_
  refine lv_iconst (v := 0) hx hb dX4_isBranch_1 (by decide) ?_
  refine lv_bipush (v := 9) hx hb dX4_isBranch_2 (by decide) ?_
  obtain ⟨x1, hcl, hf⟩ := wp_b hf
  refine k_Si F hK hH hA hl.1 ⟨Nat.zero_le _, Nat.zero_le _⟩ [] [.int v0, .int 0, .int 9] [] (ctX4_isIn v0 0 9 hcl) (va_cwS 3 hts gX4_isBranch_X4_isIn rfl rfl rfl hdSX4_isIn ⟨Nat.le_of_ble_eq_true rfl, Nat.le_of_ble_eq_true rfl⟩) dX4_isBranch_4 rfl rfl (Nat.le_of_ble_eq_true rfl) rfl rfl (by decide) (fun H locs hH => ?_)
  have hH : Hs D A s.heap ([]) H locs := hH
  obtain ⟨z2, hbo, hf⟩ := wp_b hf
  obtain ⟨hbe, hnb⟩ := bo_narrow hbo
  rw [hbe] at hf
  have hrs := wp_s hf
  subst hrs
  exact RET H locs ls 7 dX4_isBranch_7 hnb hH

def fX4_isVerdict (v0 : Int32) : Option (Int32) :=
  Option.bind (fX4_isIn v0 0 2) fun x1 =>
  (bo x1).bind fun z2 =>
  some z2

def rmX4_isVerdict : Room := { frames := 1, cells := 0, slots := 0, locals := 22 }
theorem hdSX4_isVerdict : yX4_isVerdict.cls ≠ "java/lang/invoke/MethodHandle" ∧ yX4_isVerdict.cls ≠ "java/lang/invoke/VarHandle" ∧ (parseMethodDescriptor yX4_isVerdict.desc).map (fun d => d.parameters.length) = some 1 := by decide +kernel
set_option maxHeartbeats 4000000 in
set_option maxRecDepth 100000 in
theorem ctX4_isVerdict {l : Launch} {D : va_G} {cI cJ cQ : ClassId}   (v0 : Int32) {res : Int32} (h : fX4_isVerdict v0 = some res) : CtI l D cI cJ cQ yX4_isVerdict wsX4_isVerdict rmX4_isVerdict [.int v0] ([]) res ([]) := by
  refine ctI_of .boolean (cc := cX4_isVerdict) (maxL := 1) (by decide) rfl (Nat.le_of_ble_eq_true rfl) ?_
  intro p e s m args below meth c A Q ls F hK hA RET hH hl
  obtain ⟨hx, hb, hml, hown, hts⟩ := id F
  have hl : lv_has ls 1 [(0, .int v0)] := hl
  have hf : wpO (fX4_isVerdict v0) (fun v => v = res) := ⟨_, h, rfl⟩
  obtain ⟨H, eH⟩ : ∃ H, H = s.heap := ⟨_, rfl⟩
  obtain ⟨locs, eL⟩ : ∃ locs : List Loc, locs = [] := ⟨_, rfl⟩
  have hH : Hs D A s.heap ([]) H locs := by rw [eH, eL]; exact hH
  rw [← eL]
  suffices hgo : W p l e rmX4_isVerdict s m args below meth c H locs 0 0 Q (F0 m 0 ls []) by rw [eH] at hgo; exact hgo
  clear eH eL
  refine lv_iload_n hx hb dX4_isVerdict_0 rfl (lv_at hl 0 rfl) ?_
  refine lv_iconst (v := 0) hx hb dX4_isVerdict_1 (by decide) ?_
  refine lv_iconst (v := 2) hx hb dX4_isVerdict_2 (by decide) ?_
  obtain ⟨x1, hcl, hf⟩ := wp_b hf
  refine k_Si F hK hH hA hl.1 ⟨Nat.zero_le _, Nat.zero_le _⟩ [] [.int v0, .int 0, .int 2] [] (ctX4_isIn v0 0 2 hcl) (va_cwS 3 hts gX4_isVerdict_X4_isIn rfl rfl rfl hdSX4_isIn ⟨Nat.le_of_ble_eq_true rfl, Nat.le_of_ble_eq_true rfl⟩) dX4_isVerdict_3 rfl rfl (Nat.le_of_ble_eq_true rfl) rfl rfl (by decide) (fun H locs hH => ?_)
  have hH : Hs D A s.heap ([]) H locs := hH
  obtain ⟨z2, hbo, hf⟩ := wp_b hf
  obtain ⟨hbe, hnb⟩ := bo_narrow hbo
  rw [hbe] at hf
  have hrs := wp_s hf
  subst hrs
  exact RET H locs ls 6 dX4_isVerdict_6 hnb hH

def fX4_has (v0 : Int32) (v1 : Int32) : Option (Int32) :=
  if ((v0 >>> (v1 &&& 31)) &&& 1) = 1 then
    some 1
  else
    some 0

def rmX4_has : Room := { frames := 0, cells := 0, slots := 0, locals := 0 }
theorem hdSX4_has : yX4_has.cls ≠ "java/lang/invoke/MethodHandle" ∧ yX4_has.cls ≠ "java/lang/invoke/VarHandle" ∧ (parseMethodDescriptor yX4_has.desc).map (fun d => d.parameters.length) = some 2 := by decide +kernel
set_option maxHeartbeats 4000000 in
set_option maxRecDepth 100000 in
theorem ctX4_has {l : Launch} {D : va_G} {cI cJ cQ : ClassId}   (v0 : Int32) (v1 : Int32) {res : Int32} (h : fX4_has v0 v1 = some res) : CtI l D cI cJ cQ yX4_has wsX4_has rmX4_has [.int v0, .int v1] ([]) res ([]) := by
  refine ctI_of .boolean (cc := cX4_has) (maxL := 2) (by decide) rfl (Nat.le_of_ble_eq_true rfl) ?_
  intro p e s m args below meth c A Q ls F hK hA RET hH hl
  obtain ⟨hx, hb, hml, hown, hts⟩ := id F
  have hl : lv_has ls 2 [(0, .int v0), (1, .int v1)] := hl
  have hf : wpO (fX4_has v0 v1) (fun v => v = res) := ⟨_, h, rfl⟩
  obtain ⟨H, eH⟩ : ∃ H, H = s.heap := ⟨_, rfl⟩
  obtain ⟨locs, eL⟩ : ∃ locs : List Loc, locs = [] := ⟨_, rfl⟩
  have hH : Hs D A s.heap ([]) H locs := by rw [eH, eL]; exact hH
  rw [← eL]
  suffices hgo : W p l e rmX4_has s m args below meth c H locs 0 0 Q (F0 m 0 ls []) by rw [eH] at hgo; exact hgo
  clear eH eL
  refine lv_iload_n hx hb dX4_has_0 rfl (lv_at hl 0 rfl) ?_
  refine lv_iload_n hx hb dX4_has_1 rfl (lv_at hl 1 rfl) ?_
  refine lv_ishr hx hb dX4_has_2 ?_
  refine lv_iconst (v := 1) hx hb dX4_has_3 (by decide) ?_
  refine lv_iand hx hb dX4_has_4 ?_
  refine lv_iconst (v := 1) hx hb dX4_has_5 (by decide) ?_
  refine lv_icmp_ne (tgt := 13) hx hb dX4_has_6 (by decide) (fun hc => ?_) (fun hc => ?_)
  · have hf := wp_f hc hf
    refine lv_iconst (v := 0) hx hb dX4_has_13 (by decide) ?_
    have hrs := wp_s hf
    subst hrs
    exact RET H locs ls 14 dX4_has_14 (by show narrow .boolean (.int 0) = .int 0; rfl) hH
  · have hf := wp_t hc hf
    refine lv_iconst (v := 1) hx hb dX4_has_9 (by decide) ?_
    refine lv_goto (tgt := 14) hx hb dX4_has_10 (by decide) ?_
    have hrs := wp_s hf
    subst hrs
    exact RET H locs ls 14 dX4_has_14 (by show narrow .boolean (.int 1) = .int 1; rfl) hH

def bX4_bits_4 (v0 : Int32) : (Int32 × Int32) → Option ((Int32 × Int32) ⊕ (Int32)) := fun ((t1, t2) : Int32 × Int32) =>
  if (16 : Int32) ≤ t2 then
    some (.inr t1)
  else
    some (.inl (t1 + ((v0 >>> (t2 &&& 31)) &&& 1), t2 + 1))

def fX4_bits (v0 : Int32) : Option (Int32) :=
  Option.bind (lp (bX4_bits_4 v0) fu (0, 0)) fun (t3 : Int32) =>
  some t3

def rmX4_bits : Room := { frames := 0, cells := 0, slots := 0, locals := 0 }
theorem hdSX4_bits : yX4_bits.cls ≠ "java/lang/invoke/MethodHandle" ∧ yX4_bits.cls ≠ "java/lang/invoke/VarHandle" ∧ (parseMethodDescriptor yX4_bits.desc).map (fun d => d.parameters.length) = some 1 := by decide +kernel
set_option maxHeartbeats 4000000 in
set_option maxRecDepth 100000 in
theorem ctX4_bits {l : Launch} {D : va_G} {cI cJ cQ : ClassId}   (v0 : Int32) {res : Int32} (h : fX4_bits v0 = some res) : CtI l D cI cJ cQ yX4_bits wsX4_bits rmX4_bits [.int v0] ([]) res ([]) := by
  refine ctI_of .int (cc := cX4_bits) (maxL := 3) (by decide) rfl (Nat.le_of_ble_eq_true rfl) ?_
  intro p e s m args below meth c A Q ls F hK hA RET hH hl
  obtain ⟨hx, hb, hml, hown, hts⟩ := id F
  have hl : lv_has ls 3 [(0, .int v0)] := hl
  have hf : wpO (fX4_bits v0) (fun v => v = res) := ⟨_, h, rfl⟩
  obtain ⟨H, eH⟩ : ∃ H, H = s.heap := ⟨_, rfl⟩
  obtain ⟨locs, eL⟩ : ∃ locs : List Loc, locs = [] := ⟨_, rfl⟩
  have hH : Hs D A s.heap ([]) H locs := by rw [eH, eL]; exact hH
  rw [← eL]
  suffices hgo : W p l e rmX4_bits s m args below meth c H locs 0 0 Q (F0 m 0 ls []) by rw [eH] at hgo; exact hgo
  clear eH eL
  refine lv_iconst (v := 0) hx hb dX4_bits_0 (by decide) ?_
  refine lv_istore_n (lv' := [(1, .int 0), (0, .int v0)]) hx hb dX4_bits_1 rfl hl (by decide) rfl (fun ls hl => ?_)
  refine lv_iconst (v := 0) hx hb dX4_bits_2 (by decide) ?_
  refine lv_istore_n (lv' := [(2, .int 0), (1, .int 0), (0, .int v0)]) hx hb dX4_bits_3 rfl hl (by decide) rfl (fun ls hl => ?_)
  have LP : ∀ (Φ : (Int32) → Prop), (∀ (t3 : Int32) (H : Heap) (locs : List Loc) (ls : Array Slot), Φ (t3) → Hs D A s.heap ([]) H locs → lv_has ls 3 [(1, .int t3)] → W p l e rmX4_bits s m args below meth c H locs 0 0 Q (F0 m 24 ls [])) → ∀ (n : Nat) (t1 : Int32) (t2 : Int32) (H : Heap) (locs : List Loc) (ls : Array Slot), wpO (lp (bX4_bits_4 v0) n (t1, t2)) Φ → Hs D A s.heap ([]) H locs → lv_has ls 3 [(0, .int v0), (1, .int t1), (2, .int t2)] → W p l e rmX4_bits s m args below meth c H locs 0 0 Q (F0 m 4 ls []) := by
    intro Φ EX n
    induction n with
    | zero =>
      intro t1 t2 H locs ls hf hH hl
      exact (wp_l0 hf).elim
    | succ n ih =>
      intro t1 t2 H locs ls hf hH hl
      have hf := wp_l hf
      refine lv_iload_n hx hb dX4_bits_4 rfl (lv_at hl 2 rfl) ?_
      refine lv_bipush (v := 16) hx hb dX4_bits_5 (by decide) ?_
      refine lv_icmp_ge (tgt := 24) hx hb dX4_bits_7 (by decide) (fun hc => ?_) (fun hc => ?_)
      · have hf := wp_t hc hf
        have hw := wp_out hf
        exact EX _ _ _ _ hw hH (lv_sub hl [1] rfl)
      · have hf := wp_f hc hf
        refine lv_iload_n hx hb dX4_bits_10 rfl (lv_at hl 1 rfl) ?_
        refine lv_iload_n hx hb dX4_bits_11 rfl (lv_at hl 0 rfl) ?_
        refine lv_iload_n hx hb dX4_bits_12 rfl (lv_at hl 2 rfl) ?_
        refine lv_ishr hx hb dX4_bits_13 ?_
        refine lv_iconst (v := 1) hx hb dX4_bits_14 (by decide) ?_
        refine lv_iand hx hb dX4_bits_15 ?_
        refine lv_iadd hx hb dX4_bits_16 ?_
        refine lv_istore_n (lv' := [(1, .int (t1 + ((v0 >>> (t2 &&& 31)) &&& 1))), (0, .int v0), (2, .int t2)]) hx hb dX4_bits_17 rfl hl (by decide) rfl (fun ls hl => ?_)
        refine lv_iinc (v := t2 + 1) (lv' := [(2, .int (t2 + 1)), (1, .int (t1 + ((v0 >>> (t2 &&& 31)) &&& 1))), (0, .int v0)]) hx hb dX4_bits_18 hl (k := 2) rfl rfl (by decide) rfl (fun ls hl => ?_)
        refine lv_goto (tgt := 4) hx hb dX4_bits_21 (by decide) ?_
        have hw := wp_in hf
        exact ih _ _ _ _ _ hw hH (lv_sub hl [2, 1, 0] rfl)
  refine LP _ (fun t3 H locs ls hf hH hl => ?_) fu _ _ _ _ _ (wp_bb hf) hH (lv_sub hl [2, 1, 0] rfl)
  refine lv_iload_n hx hb dX4_bits_24 rfl (lv_at hl 0 rfl) ?_
  have hrs := wp_s hf
  subst hrs
  exact RET H locs ls 25 dX4_bits_25 rfl hH

def fX4_goesBy (v0 : Int32) (v1 : Int32) (v2 : Int32) : Option (Int32) :=
  if v0 = 2 then
    some 1
  else
    if v0 = 3 then
      if (v1 + 2) = 0 then none else
      if (irem v2 (v1 + 2)) = 0 then
        some 1
      else
        some 0
    else
      if v0 = 4 then
        some 2
      else
        some 0

def rmX4_goesBy : Room := { frames := 0, cells := 0, slots := 0, locals := 0 }
theorem hdSX4_goesBy : yX4_goesBy.cls ≠ "java/lang/invoke/MethodHandle" ∧ yX4_goesBy.cls ≠ "java/lang/invoke/VarHandle" ∧ (parseMethodDescriptor yX4_goesBy.desc).map (fun d => d.parameters.length) = some 3 := by decide +kernel
set_option maxHeartbeats 4000000 in
set_option maxRecDepth 100000 in
theorem ctX4_goesBy {l : Launch} {D : va_G} {cI cJ cQ : ClassId}   (v0 : Int32) (v1 : Int32) (v2 : Int32) {res : Int32} (h : fX4_goesBy v0 v1 v2 = some res) : CtI l D cI cJ cQ yX4_goesBy wsX4_goesBy rmX4_goesBy [.int v0, .int v1, .int v2] ([]) res ([]) := by
  refine ctI_of .int (cc := cX4_goesBy) (maxL := 3) (by decide) rfl (Nat.le_of_ble_eq_true rfl) ?_
  intro p e s m args below meth c A Q ls F hK hA RET hH hl
  obtain ⟨hx, hb, hml, hown, hts⟩ := id F
  have hl : lv_has ls 3 [(0, .int v0), (1, .int v1), (2, .int v2)] := hl
  have hf : wpO (fX4_goesBy v0 v1 v2) (fun v => v = res) := ⟨_, h, rfl⟩
  obtain ⟨H, eH⟩ : ∃ H, H = s.heap := ⟨_, rfl⟩
  obtain ⟨locs, eL⟩ : ∃ locs : List Loc, locs = [] := ⟨_, rfl⟩
  have hH : Hs D A s.heap ([]) H locs := by rw [eH, eL]; exact hH
  rw [← eL]
  suffices hgo : W p l e rmX4_goesBy s m args below meth c H locs 0 0 Q (F0 m 0 ls []) by rw [eH] at hgo; exact hgo
  clear eH eL
  refine lv_iload_n hx hb dX4_goesBy_0 rfl (lv_at hl 0 rfl) ?_
  by_cases hc0 : v0 = 2
  · have hf := wp_t hc0 hf
    refine lv_tableIn (tgt := 28) hx hb dX4_goesBy_1 (by rw [hc0]; decide) (by rw [hc0]; decide) (by rw [hc0]; try rfl) (by decide) ?_
    refine lv_iconst (v := 1) hx hb dX4_goesBy_28 (by decide) ?_
    have hrs := wp_s hf
    subst hrs
    exact RET H locs ls 29 dX4_goesBy_29 rfl hH
  · have hf := wp_f hc0 hf
    by_cases hc1 : v0 = 3
    · have hf := wp_t hc1 hf
      refine lv_tableIn (tgt := 30) hx hb dX4_goesBy_1 (by rw [hc1]; decide) (by rw [hc1]; decide) (by rw [hc1]; try rfl) (by decide) ?_
      refine lv_iload_n hx hb dX4_goesBy_30 rfl (lv_at hl 2 rfl) ?_
      refine lv_iload_n hx hb dX4_goesBy_31 rfl (lv_at hl 1 rfl) ?_
      refine lv_iconst (v := 2) hx hb dX4_goesBy_32 (by decide) ?_
      refine lv_iadd hx hb dX4_goesBy_33 ?_
      obtain ⟨hz, hf⟩ := wp_n hf
      refine lv_irem hx hb dX4_goesBy_34 hz ?_
      refine lv_if_ne (tgt := 42) hx hb dX4_goesBy_35 (by decide) (fun hc => ?_) (fun hc => ?_)
      · have hf := wp_f hc hf
        refine lv_iconst (v := 0) hx hb dX4_goesBy_42 (by decide) ?_
        have hrs := wp_s hf
        subst hrs
        exact RET H locs ls 43 dX4_goesBy_43 rfl hH
      · have hf := wp_t hc hf
        refine lv_iconst (v := 1) hx hb dX4_goesBy_38 (by decide) ?_
        refine lv_goto (tgt := 43) hx hb dX4_goesBy_39 (by decide) ?_
        have hrs := wp_s hf
        subst hrs
        exact RET H locs ls 43 dX4_goesBy_43 rfl hH
    · have hf := wp_f hc1 hf
      by_cases hc2 : v0 = 4
      · have hf := wp_t hc2 hf
        refine lv_tableIn (tgt := 44) hx hb dX4_goesBy_1 (by rw [hc2]; decide) (by rw [hc2]; decide) (by rw [hc2]; try rfl) (by decide) ?_
        refine lv_iconst (v := 2) hx hb dX4_goesBy_44 (by decide) ?_
        have hrs := wp_s hf
        subst hrs
        exact RET H locs ls 45 dX4_goesBy_45 rfl hH
      · have hf := wp_f hc2 hf
        have hs0 := sw_ne hc0 (show (2 : Int32).toInt = 2 from rfl)
        have hs1 := sw_ne hc1 (show (3 : Int32).toInt = 3 from rfl)
        have hs2 := sw_ne hc2 (show (4 : Int32).toInt = 4 from rfl)
        refine lv_tableOut (tgt := 46) hx hb dX4_goesBy_1 (by omega) (by decide) ?_
        refine lv_iconst (v := 0) hx hb dX4_goesBy_46 (by decide) ?_
        have hrs := wp_s hf
        subst hrs
        exact RET H locs ls 47 dX4_goesBy_47 rfl hH

def fX4_upBy (v0 : Int32) (v1 : Int32) (v2 : Int32) : Option (Int32) :=
  if v0 = 1 then
    some (v1 + (irem v2 2))
  else
    if v0 = 2 then
      some 1
    else
      if v0 = 3 then
        some 1
      else
        if v0 = 4 then
          some 6
        else
          if v0 = 5 then
            if (irem v2 2) = 0 then
              some 2
            else
              some 0
          else
            some v1

def rmX4_upBy : Room := { frames := 0, cells := 0, slots := 0, locals := 0 }
theorem hdSX4_upBy : yX4_upBy.cls ≠ "java/lang/invoke/MethodHandle" ∧ yX4_upBy.cls ≠ "java/lang/invoke/VarHandle" ∧ (parseMethodDescriptor yX4_upBy.desc).map (fun d => d.parameters.length) = some 3 := by decide +kernel
set_option maxHeartbeats 4000000 in
set_option maxRecDepth 100000 in
theorem ctX4_upBy {l : Launch} {D : va_G} {cI cJ cQ : ClassId}   (v0 : Int32) (v1 : Int32) (v2 : Int32) {res : Int32} (h : fX4_upBy v0 v1 v2 = some res) : CtI l D cI cJ cQ yX4_upBy wsX4_upBy rmX4_upBy [.int v0, .int v1, .int v2] ([]) res ([]) := by
  refine ctI_of .int (cc := cX4_upBy) (maxL := 3) (by decide) rfl (Nat.le_of_ble_eq_true rfl) ?_
  intro p e s m args below meth c A Q ls F hK hA RET hH hl
  obtain ⟨hx, hb, hml, hown, hts⟩ := id F
  have hl : lv_has ls 3 [(0, .int v0), (1, .int v1), (2, .int v2)] := hl
  have hf : wpO (fX4_upBy v0 v1 v2) (fun v => v = res) := ⟨_, h, rfl⟩
  obtain ⟨H, eH⟩ : ∃ H, H = s.heap := ⟨_, rfl⟩
  obtain ⟨locs, eL⟩ : ∃ locs : List Loc, locs = [] := ⟨_, rfl⟩
  have hH : Hs D A s.heap ([]) H locs := by rw [eH, eL]; exact hH
  rw [← eL]
  suffices hgo : W p l e rmX4_upBy s m args below meth c H locs 0 0 Q (F0 m 0 ls []) by rw [eH] at hgo; exact hgo
  clear eH eL
  refine lv_iload_n hx hb dX4_upBy_0 rfl (lv_at hl 0 rfl) ?_
  by_cases hc0 : v0 = 1
  · have hf := wp_t hc0 hf
    refine lv_tableIn (tgt := 36) hx hb dX4_upBy_1 (by rw [hc0]; decide) (by rw [hc0]; decide) (by rw [hc0]; try rfl) (by decide) ?_
    refine lv_iload_n hx hb dX4_upBy_36 rfl (lv_at hl 1 rfl) ?_
    refine lv_iload_n hx hb dX4_upBy_37 rfl (lv_at hl 2 rfl) ?_
    refine lv_iconst (v := 2) hx hb dX4_upBy_38 (by decide) ?_
    refine lv_irem hx hb dX4_upBy_39 (by decide) ?_
    refine lv_iadd hx hb dX4_upBy_40 ?_
    have hrs := wp_s hf
    subst hrs
    exact RET H locs ls 41 dX4_upBy_41 rfl hH
  · have hf := wp_f hc0 hf
    by_cases hc1 : v0 = 2
    · have hf := wp_t hc1 hf
      refine lv_tableIn (tgt := 42) hx hb dX4_upBy_1 (by rw [hc1]; decide) (by rw [hc1]; decide) (by rw [hc1]; try rfl) (by decide) ?_
      refine lv_iconst (v := 1) hx hb dX4_upBy_42 (by decide) ?_
      have hrs := wp_s hf
      subst hrs
      exact RET H locs ls 43 dX4_upBy_43 rfl hH
    · have hf := wp_f hc1 hf
      by_cases hc2 : v0 = 3
      · have hf := wp_t hc2 hf
        refine lv_tableIn (tgt := 42) hx hb dX4_upBy_1 (by rw [hc2]; decide) (by rw [hc2]; decide) (by rw [hc2]; try rfl) (by decide) ?_
        refine lv_iconst (v := 1) hx hb dX4_upBy_42 (by decide) ?_
        have hrs := wp_s hf
        subst hrs
        exact RET H locs ls 43 dX4_upBy_43 rfl hH
      · have hf := wp_f hc2 hf
        by_cases hc3 : v0 = 4
        · have hf := wp_t hc3 hf
          refine lv_tableIn (tgt := 44) hx hb dX4_upBy_1 (by rw [hc3]; decide) (by rw [hc3]; decide) (by rw [hc3]; try rfl) (by decide) ?_
          refine lv_bipush (v := 6) hx hb dX4_upBy_44 (by decide) ?_
          have hrs := wp_s hf
          subst hrs
          exact RET H locs ls 46 dX4_upBy_46 rfl hH
        · have hf := wp_f hc3 hf
          by_cases hc4 : v0 = 5
          · have hf := wp_t hc4 hf
            refine lv_tableIn (tgt := 47) hx hb dX4_upBy_1 (by rw [hc4]; decide) (by rw [hc4]; decide) (by rw [hc4]; try rfl) (by decide) ?_
            refine lv_iload_n hx hb dX4_upBy_47 rfl (lv_at hl 2 rfl) ?_
            refine lv_iconst (v := 2) hx hb dX4_upBy_48 (by decide) ?_
            refine lv_irem hx hb dX4_upBy_49 (by decide) ?_
            refine lv_if_ne (tgt := 57) hx hb dX4_upBy_50 (by decide) (fun hc => ?_) (fun hc => ?_)
            · have hf := wp_f hc hf
              refine lv_iconst (v := 0) hx hb dX4_upBy_57 (by decide) ?_
              have hrs := wp_s hf
              subst hrs
              exact RET H locs ls 58 dX4_upBy_58 rfl hH
            · have hf := wp_t hc hf
              refine lv_iconst (v := 2) hx hb dX4_upBy_53 (by decide) ?_
              refine lv_goto (tgt := 58) hx hb dX4_upBy_54 (by decide) ?_
              have hrs := wp_s hf
              subst hrs
              exact RET H locs ls 58 dX4_upBy_58 rfl hH
          · have hf := wp_f hc4 hf
            have hs0 := sw_ne hc0 (show (1 : Int32).toInt = 1 from rfl)
            have hs1 := sw_ne hc1 (show (2 : Int32).toInt = 2 from rfl)
            have hs2 := sw_ne hc2 (show (3 : Int32).toInt = 3 from rfl)
            have hs3 := sw_ne hc3 (show (4 : Int32).toInt = 4 from rfl)
            have hs4 := sw_ne hc4 (show (5 : Int32).toInt = 5 from rfl)
            refine lv_tableOut (tgt := 59) hx hb dX4_upBy_1 (by omega) (by decide) ?_
            refine lv_iload_n hx hb dX4_upBy_59 rfl (lv_at hl 1 rfl) ?_
            have hrs := wp_s hf
            subst hrs
            exact RET H locs ls 60 dX4_upBy_60 rfl hH

def fX4_top (v1 : Int32) (r : (Nat → Int32)) : Option (Int32) :=
  Option.bind (fX4_of v1 2) fun x1 =>
  if ob x1 53 then none else
  if ob (4 + (r (Int32.toNatClampNeg x1))) 53 then none else
  Option.bind (fX4_of v1 0) fun x2 =>
  if ob x2 53 then none else
  Option.bind (fX4_of v1 1) fun x3 =>
  if ob x3 53 then none else
  Option.bind (fX4_upBy (r (Int32.toNatClampNeg x2)) (r (Int32.toNatClampNeg x3)) (r (Int32.toNatClampNeg 1))) fun x4 =>
  some ((r (Int32.toNatClampNeg (4 + (r (Int32.toNatClampNeg x1))))) + x4)

def rmX4_top : Room := { frames := 1, cells := 0, slots := 0, locals := 22 }
theorem hdSX4_top : yX4_top.cls ≠ "java/lang/invoke/MethodHandle" ∧ yX4_top.cls ≠ "java/lang/invoke/VarHandle" ∧ (parseMethodDescriptor yX4_top.desc).map (fun d => d.parameters.length) = some 2 := by decide +kernel
set_option maxHeartbeats 4000000 in
set_option maxRecDepth 100000 in
theorem ctX4_top {l : Launch} {D : va_G} {cI cJ cQ : ClassId} (da : Nat) (r : (Nat → Int32)) (v1 : Int32) {res : Int32} (h : fX4_top v1 r = some res) : CtI l D cI cJ cQ yX4_top wsX4_top rmX4_top [.ref da, .int v1] (wAr cI da 53 r) res (wAr cI da 53 r) := by
  refine ctI_of .int (cc := cX4_top) (maxL := 2) (by decide) rfl (Nat.le_of_ble_eq_true rfl) ?_
  intro p e s m args below meth c A Q ls F hK hA RET hH hl
  obtain ⟨hx, hb, hml, hown, hts⟩ := id F
  have hl : lv_has ls 2 [(0, .ref da), (1, .int v1)] := hl
  have hf : wpO (fX4_top v1 r) (fun v => v = res) := ⟨_, h, rfl⟩
  obtain ⟨H, eH⟩ : ∃ H, H = s.heap := ⟨_, rfl⟩
  obtain ⟨locs, eL⟩ : ∃ locs : List Loc, locs = [] := ⟨_, rfl⟩
  have hH : Hs D A s.heap (wAr cI da 53 r) H locs := by rw [eH, eL]; exact hH
  rw [← eL]
  suffices hgo : W p l e rmX4_top s m args below meth c H locs 0 0 Q (F0 m 0 ls []) by rw [eH] at hgo; exact hgo
  clear eH eL
  refine lv_aload_n hx hb dX4_top_0 rfl (lv_at hl 0 rfl) ?_
  refine lv_iconst (v := 4) hx hb dX4_top_1 (by decide) ?_
  refine lv_aload_n hx hb dX4_top_2 rfl (lv_at hl 0 rfl) ?_
  refine lv_iload_n hx hb dX4_top_3 rfl (lv_at hl 1 rfl) ?_
  refine lv_iconst (v := 2) hx hb dX4_top_4 (by decide) ?_
  obtain ⟨x1, hcl, hf⟩ := wp_b hf
  refine k_Si F hK hH hA hl.1 ⟨Nat.zero_le _, Nat.zero_le _⟩ [] [.int v1, .int 2] [.ref da, .int 4, .ref da] (ctX4_of v1 2 hcl) (va_cwS 2 hts gX4_top_X4_of rfl rfl rfl hdSX4_of ⟨Nat.le_of_ble_eq_true rfl, Nat.le_of_ble_eq_true rfl⟩) dX4_top_5 rfl rfl (Nat.le_of_ble_eq_true rfl) rfl rfl (by decide) (fun H locs hH => ?_)
  have hH : Hs D A s.heap (wAr cI da 53 r) H locs := hH
  obtain ⟨hi, hf⟩ := wp_n hf
  refine k_iald (f := r) (n := 53) F hK hH 0 dX4_top_8 hi rfl ?_
  refine lv_iadd hx hb dX4_top_9 ?_
  obtain ⟨hi, hf⟩ := wp_n hf
  refine k_iald (f := r) (n := 53) F hK hH 0 dX4_top_10 hi rfl ?_
  refine lv_aload_n hx hb dX4_top_11 rfl (lv_at hl 0 rfl) ?_
  refine lv_iload_n hx hb dX4_top_12 rfl (lv_at hl 1 rfl) ?_
  refine lv_iconst (v := 0) hx hb dX4_top_13 (by decide) ?_
  obtain ⟨x2, hcl, hf⟩ := wp_b hf
  refine k_Si F hK hH hA hl.1 ⟨Nat.zero_le _, Nat.zero_le _⟩ [] [.int v1, .int 0] [.ref da, .int (r (Int32.toNatClampNeg (4 + (r (Int32.toNatClampNeg x1)))))] (ctX4_of v1 0 hcl) (va_cwS 2 hts gX4_top_X4_of rfl rfl rfl hdSX4_of ⟨Nat.le_of_ble_eq_true rfl, Nat.le_of_ble_eq_true rfl⟩) dX4_top_14 rfl rfl (Nat.le_of_ble_eq_true rfl) rfl rfl (by decide) (fun H locs hH => ?_)
  have hH : Hs D A s.heap (wAr cI da 53 r) H locs := hH
  obtain ⟨hi, hf⟩ := wp_n hf
  refine k_iald (f := r) (n := 53) F hK hH 0 dX4_top_17 hi rfl ?_
  refine lv_aload_n hx hb dX4_top_18 rfl (lv_at hl 0 rfl) ?_
  refine lv_iload_n hx hb dX4_top_19 rfl (lv_at hl 1 rfl) ?_
  refine lv_iconst (v := 1) hx hb dX4_top_20 (by decide) ?_
  obtain ⟨x3, hcl, hf⟩ := wp_b hf
  refine k_Si F hK hH hA hl.1 ⟨Nat.zero_le _, Nat.zero_le _⟩ [] [.int v1, .int 1] [.ref da, .int (r (Int32.toNatClampNeg x2)), .int (r (Int32.toNatClampNeg (4 + (r (Int32.toNatClampNeg x1)))))] (ctX4_of v1 1 hcl) (va_cwS 2 hts gX4_top_X4_of rfl rfl rfl hdSX4_of ⟨Nat.le_of_ble_eq_true rfl, Nat.le_of_ble_eq_true rfl⟩) dX4_top_21 rfl rfl (Nat.le_of_ble_eq_true rfl) rfl rfl (by decide) (fun H locs hH => ?_)
  have hH : Hs D A s.heap (wAr cI da 53 r) H locs := hH
  obtain ⟨hi, hf⟩ := wp_n hf
  refine k_iald (f := r) (n := 53) F hK hH 0 dX4_top_24 hi rfl ?_
  refine lv_aload_n hx hb dX4_top_25 rfl (lv_at hl 0 rfl) ?_
  refine lv_iconst (v := 1) hx hb dX4_top_26 (by decide) ?_
  refine k_iald (f := r) (n := 53) F hK hH 0 dX4_top_27 (by decide) rfl ?_
  obtain ⟨x4, hcl, hf⟩ := wp_b hf
  refine k_Si F hK hH hA hl.1 ⟨Nat.zero_le _, Nat.zero_le _⟩ [] [.int (r (Int32.toNatClampNeg x2)), .int (r (Int32.toNatClampNeg x3)), .int (r (Int32.toNatClampNeg 1))] [.int (r (Int32.toNatClampNeg (4 + (r (Int32.toNatClampNeg x1)))))] (ctX4_upBy (r (Int32.toNatClampNeg x2)) (r (Int32.toNatClampNeg x3)) (r (Int32.toNatClampNeg 1)) hcl) (va_cwS 3 hts gX4_top_X4_upBy rfl rfl rfl hdSX4_upBy ⟨Nat.le_of_ble_eq_true rfl, Nat.le_of_ble_eq_true rfl⟩) dX4_top_28 rfl rfl (Nat.le_of_ble_eq_true rfl) rfl rfl (by decide) (fun H locs hH => ?_)
  have hH : Hs D A s.heap (wAr cI da 53 r) H locs := hH
  refine lv_iadd hx hb dX4_top_31 ?_
  have hrs := wp_s hf
  subst hrs
  exact RET H locs ls 32 dX4_top_32 rfl hH

def bX4_isClear_18 (v1 : Int32) (v2 : Int32) (v3 : Int32) (r : (Nat → Int32)) : (Int32) → Option ((Int32) ⊕ ((Int32) ⊕ (Unit))) := fun (t1 : Int32) =>
  if v2 ≤ t1 then
    some (.inr (.inr ()))
  else
    if ob (4 + t1) 53 then none else
    if (r (Int32.toNatClampNeg (4 + t1))) < v1 then
      some (.inl (t1 + 1))
    else
      if ob (4 + t1) 53 then none else
      if (r (Int32.toNatClampNeg (4 + t1))) < v3 then
        some (.inl (t1 + 1))
      else
        some (.inr (.inl 0))

def fX4_isClear (v1 : Int32) (v2 : Int32) (v3 : Int32) (r : (Nat → Int32)) : Option (Int32) :=
  if (r (Int32.toNatClampNeg 2)) < (v2 + 1) then
    some 0
  else
    if (0 : Int32) < v3 then
      Option.bind (lp (bX4_isClear_18 v1 v2 v3 r) fu 0) (el (fun v => some v) (fun (_ : Unit) =>
        some 1))
    else
      some 0

def rmX4_isClear : Room := { frames := 0, cells := 0, slots := 0, locals := 0 }
theorem hdSX4_isClear : yX4_isClear.cls ≠ "java/lang/invoke/MethodHandle" ∧ yX4_isClear.cls ≠ "java/lang/invoke/VarHandle" ∧ (parseMethodDescriptor yX4_isClear.desc).map (fun d => d.parameters.length) = some 4 := by decide +kernel
set_option maxHeartbeats 4000000 in
set_option maxRecDepth 100000 in
theorem ctX4_isClear {l : Launch} {D : va_G} {cI cJ cQ : ClassId} (da : Nat) (r : (Nat → Int32)) (v1 : Int32) (v2 : Int32) (v3 : Int32) {res : Int32} (h : fX4_isClear v1 v2 v3 r = some res) : CtI l D cI cJ cQ yX4_isClear wsX4_isClear rmX4_isClear [.ref da, .int v1, .int v2, .int v3] (wAr cI da 53 r) res (wAr cI da 53 r) := by
  refine ctI_of .boolean (cc := cX4_isClear) (maxL := 5) (by decide) rfl (Nat.le_of_ble_eq_true rfl) ?_
  intro p e s m args below meth c A Q ls F hK hA RET hH hl
  obtain ⟨hx, hb, hml, hown, hts⟩ := id F
  have hl : lv_has ls 5 [(0, .ref da), (1, .int v1), (2, .int v2), (3, .int v3)] := hl
  have hf : wpO (fX4_isClear v1 v2 v3 r) (fun v => v = res) := ⟨_, h, rfl⟩
  obtain ⟨H, eH⟩ : ∃ H, H = s.heap := ⟨_, rfl⟩
  obtain ⟨locs, eL⟩ : ∃ locs : List Loc, locs = [] := ⟨_, rfl⟩
  have hH : Hs D A s.heap (wAr cI da 53 r) H locs := by rw [eH, eL]; exact hH
  rw [← eL]
  suffices hgo : W p l e rmX4_isClear s m args below meth c H locs 0 0 Q (F0 m 0 ls []) by rw [eH] at hgo; exact hgo
  clear eH eL
  refine lv_iload_n hx hb dX4_isClear_0 rfl (lv_at hl 2 rfl) ?_
  refine lv_iconst (v := 1) hx hb dX4_isClear_1 (by decide) ?_
  refine lv_iadd hx hb dX4_isClear_2 ?_
  refine lv_aload_n hx hb dX4_isClear_3 rfl (lv_at hl 0 rfl) ?_
  refine lv_iconst (v := 2) hx hb dX4_isClear_4 (by decide) ?_
  refine k_iald (f := r) (n := 53) F hK hH 0 dX4_isClear_5 (by decide) rfl ?_
  refine lv_icmp_gt (tgt := 13) hx hb dX4_isClear_6 (by decide) (fun hc => ?_) (fun hc => ?_)
  · have hf := wp_t hc hf
    refine lv_iconst (v := 0) hx hb dX4_isClear_13 (by decide) ?_
    have hrs := wp_s hf
    subst hrs
    exact RET H locs ls 14 dX4_isClear_14 (by show narrow .boolean (.int 0) = .int 0; rfl) hH
  · have hf := wp_f hc hf
    refine lv_iload_n hx hb dX4_isClear_9 rfl (lv_at hl 3 rfl) ?_
    refine lv_if_gt (tgt := 15) hx hb dX4_isClear_10 (by decide) (fun hc => ?_) (fun hc => ?_)
    · have hf := wp_t hc hf
      refine lv_iconst (v := 0) hx hb dX4_isClear_15 (by decide) ?_
      refine lv_istore (lv' := [(4, .int 0), (0, .ref da), (1, .int v1), (2, .int v2), (3, .int v3)]) hx hb dX4_isClear_16 hl (by decide) rfl (fun ls hl => ?_)
      have LP : ∀ (Φ : ((Int32) ⊕ (Unit)) → Prop), (∀ v : Int32, Φ (.inl v) → v = res) → (∀ (_ : Unit) (H : Heap) (locs : List Loc) (ls : Array Slot), Φ (.inr ()) → Hs D A s.heap (wAr cI da 53 r) H locs → lv_has ls 5 [] → W p l e rmX4_isClear s m args below meth c H locs 0 0 Q (F0 m 52 ls [])) → ∀ (n : Nat) (t1 : Int32) (H : Heap) (locs : List Loc) (ls : Array Slot), wpO (lp (bX4_isClear_18 v1 v2 v3 r) n t1) Φ → Hs D A s.heap (wAr cI da 53 r) H locs → lv_has ls 5 [(0, .ref da), (1, .int v1), (2, .int v2), (3, .int v3), (4, .int t1)] → W p l e rmX4_isClear s m args below meth c H locs 0 0 Q (F0 m 18 ls []) := by
        intro Φ hret EX n
        induction n with
        | zero =>
          intro t1 H locs ls hf hH hl
          exact (wp_l0 hf).elim
        | succ n ih =>
          intro t1 H locs ls hf hH hl
          have hf := wp_l hf
          refine lv_iload hx hb dX4_isClear_18 (lv_at hl 4 rfl) ?_
          refine lv_iload_n hx hb dX4_isClear_20 rfl (lv_at hl 2 rfl) ?_
          refine lv_icmp_ge (tgt := 52) hx hb dX4_isClear_21 (by decide) (fun hc => ?_) (fun hc => ?_)
          · have hf := wp_t hc hf
            have hw := wp_out hf
            exact EX () _ _ _ hw hH (lv_sub hl [] rfl)
          · have hf := wp_f hc hf
            refine lv_aload_n hx hb dX4_isClear_24 rfl (lv_at hl 0 rfl) ?_
            refine lv_iconst (v := 4) hx hb dX4_isClear_25 (by decide) ?_
            refine lv_iload hx hb dX4_isClear_26 (lv_at hl 4 rfl) ?_
            refine lv_iadd hx hb dX4_isClear_28 ?_
            obtain ⟨hi, hf⟩ := wp_n hf
            refine k_iald (f := r) (n := 53) F hK hH 0 dX4_isClear_29 hi rfl ?_
            refine lv_iload_n hx hb dX4_isClear_30 rfl (lv_at hl 1 rfl) ?_
            refine lv_icmp_lt (tgt := 46) hx hb dX4_isClear_31 (by decide) (fun hc => ?_) (fun hc => ?_)
            · have hf := wp_t hc hf
              refine lv_iinc (v := t1 + 1) (lv' := [(4, .int (t1 + 1)), (0, .ref da), (1, .int v1), (2, .int v2), (3, .int v3)]) hx hb dX4_isClear_46 hl (k := 4) rfl rfl (by decide) rfl (fun ls hl => ?_)
              refine lv_goto (tgt := 18) hx hb dX4_isClear_49 (by decide) ?_
              have hw := wp_in hf
              exact ih _ _ _ _ hw hH (lv_sub hl [1, 2, 3, 4, 0] rfl)
            · have hf := wp_f hc hf
              refine lv_aload_n hx hb dX4_isClear_34 rfl (lv_at hl 0 rfl) ?_
              refine lv_iconst (v := 4) hx hb dX4_isClear_35 (by decide) ?_
              refine lv_iload hx hb dX4_isClear_36 (lv_at hl 4 rfl) ?_
              refine lv_iadd hx hb dX4_isClear_38 ?_
              obtain ⟨hi, hf⟩ := wp_n hf
              refine k_iald (f := r) (n := 53) F hK hH 0 dX4_isClear_39 hi rfl ?_
              refine lv_iload_n hx hb dX4_isClear_40 rfl (lv_at hl 3 rfl) ?_
              refine lv_icmp_lt (tgt := 46) hx hb dX4_isClear_41 (by decide) (fun hc => ?_) (fun hc => ?_)
              · have hf := wp_t hc hf
                refine lv_iinc (v := t1 + 1) (lv' := [(4, .int (t1 + 1)), (0, .ref da), (1, .int v1), (2, .int v2), (3, .int v3)]) hx hb dX4_isClear_46 hl (k := 4) rfl rfl (by decide) rfl (fun ls hl => ?_)
                refine lv_goto (tgt := 18) hx hb dX4_isClear_49 (by decide) ?_
                have hw := wp_in hf
                exact ih _ _ _ _ hw hH (lv_sub hl [1, 2, 3, 4, 0] rfl)
              · have hf := wp_f hc hf
                refine lv_iconst (v := 0) hx hb dX4_isClear_44 (by decide) ?_
                have hrs := hret _ (wp_out hf)
                subst hrs
                exact RET H locs ls 45 dX4_isClear_45 (by show narrow .boolean (.int 0) = .int 0; rfl) hH
      refine LP _ (fun v hv => by have h9 := wp_s hv; exact h9) (fun _ H locs ls hf hH hl => ?_) fu _ _ _ _ (wp_bb hf) hH (lv_sub hl [1, 2, 3, 4, 0] rfl)
      refine lv_iconst (v := 1) hx hb dX4_isClear_52 (by decide) ?_
      have hrs := wp_s hf
      subst hrs
      exact RET H locs ls 53 dX4_isClear_53 (by show narrow .boolean (.int 1) = .int 1; rfl) hH
    · have hf := wp_f hc hf
      refine lv_iconst (v := 0) hx hb dX4_isClear_13 (by decide) ?_
      have hrs := wp_s hf
      subst hrs
      exact RET H locs ls 14 dX4_isClear_14 (by show narrow .boolean (.int 0) = .int 0; rfl) hH

