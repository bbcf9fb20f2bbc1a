def bX4_highest_5 (xs : (Nat → Int32)) : (Int32 × Int32) → Option ((Int32 × Int32) ⊕ (Int32)) := fun ((t1, t2) : Int32 × Int32) =>
  if (xs (Int32.toNatClampNeg 0)) ≤ t2 then
    some (.inr t1)
  else
    if t1 < 0 then
      some (.inl (t2, t2 + 1))
    else
      Option.bind (fX4_top t2 xs) fun x4 =>
      Option.bind (fX4_top t1 xs) fun x5 =>
      if x4 ≤ x5 then
        some (.inl (t1, t2 + 1))
      else
        some (.inl (t2, t2 + 1))

def fX4_highest (xs : (Nat → Int32)) : Option (Int32) :=
  Option.bind (lp (bX4_highest_5 xs) fu ((-9), 0)) fun (t3 : Int32) =>
  some t3

def rmX4_highest : Room := { frames := 2, cells := 0, slots := 0, locals := 43 }
theorem mbX4_highest_f9 : Cond.fieldLink RX4 9 (TX4 0).1 (TX4 0).2.1 (TX4 0).2.2.1 ∈ wsX4_highest := by decide +kernel
theorem inX4_highest_X4 : ∀ w ∈ wsX40, w ∈ wsX4_highest := by decide +kernel
theorem hdVX4_highest : yX4_highest.cls = RX4 ∧ yX4_highest.cls ≠ "java/lang/invoke/MethodHandle" ∧ yX4_highest.cls ≠ "java/lang/invoke/VarHandle" ∧ (parseMethodDescriptor yX4_highest.desc).map (fun d => d.parameters.length) = some 0 := by decide +kernel
set_option maxHeartbeats 4000000 in
set_option maxRecDepth 100000 in
theorem ctX4_highest {l : Launch} {D : va_G} {cI cJ cQ : ClassId} (ad : Nat → Nat) (xs : (Nat → Int32)) (xm : (Nat → Int32)) (xi : (Nat → Int32)) (xw : (Nat → Int32)) (xh : Int32) (xl : (Nat → Int32)) (xr : (Nat → Int32)) (xe : (Nat → Int32)) (xn : Int32) (xo : Int32) (xp : Int32) (xu : (Nat → Int32)) (xd : Int32)  {res : Int32} (h : fX4_highest xs = some res) : CtI l D cI cJ cQ yX4_highest wsX4_highest rmX4_highest [.ref (ad 0)] (wMd cI ad xs xm xi xw xh xl xr xe xn xo xp xu xd) res (wMd cI ad xs xm xi xw xh xl xr xe xn xo xp xu xd) := by
  refine ctI_of .int (cc := cX4_highest) (maxL := 3) (by decide) rfl (Nat.le_of_ble_eq_true rfl) ?_
  intro p e s m args below meth c A Q ls F hK hA RET hH hl
  obtain ⟨hx, hb, hml, hown, hts⟩ := id F
  have hl : lv_has ls 3 [(0, .ref (ad 0))] := hl
  have hf : wpO (fX4_highest xs) (fun v => v = res) := ⟨_, h, rfl⟩
  obtain ⟨H, eH⟩ : ∃ H, H = s.heap := ⟨_, rfl⟩
  obtain ⟨locs, eL⟩ : ∃ locs : List Loc, locs = [] := ⟨_, rfl⟩
  have hH : Hs D A s.heap (wMd cI ad xs xm xi xw xh xl xr xe xn xo xp xu xd) H locs := by rw [eH, eL]; exact hH
  rw [← eL]
  suffices hgo : W p l e rmX4_highest s m args below meth c H locs 0 0 Q (F0 m 0 ls []) by rw [eH] at hgo; exact hgo
  clear eH eL
  refine lv_bipush (v := (-9)) hx hb dX4_highest_0 (by decide) ?_
  refine lv_istore_n (lv' := [(1, .int (-9)), (0, .ref (ad 0))]) hx hb dX4_highest_2 rfl hl (by decide) rfl (fun ls hl => ?_)
  refine lv_iconst (v := 0) hx hb dX4_highest_3 (by decide) ?_
  refine lv_istore_n (lv' := [(2, .int 0), (1, .int (-9)), (0, .ref (ad 0))]) hx hb dX4_highest_4 rfl hl (by decide) rfl (fun ls hl => ?_)
  have LP : ∀ (Φ : (Int32) → Prop), (∀ (t3 : Int32) (H : Heap) (locs : List Loc) (ls : Array Slot), Φ (t3) → Hs D A s.heap (wMd cI ad xs xm xi xw xh xl xr xe xn xo xp xu xd) H locs → lv_has ls 3 [(1, .int t3)] → W p l e rmX4_highest s m args below meth c H locs 0 0 Q (F0 m 46 ls [])) → ∀ (n : Nat) (t1 : Int32) (t2 : Int32) (H : Heap) (locs : List Loc) (ls : Array Slot), wpO (lp (bX4_highest_5 xs) n (t1, t2)) Φ → Hs D A s.heap (wMd cI ad xs xm xi xw xh xl xr xe xn xo xp xu xd) H locs → lv_has ls 3 [(0, .ref (ad 0)), (1, .int t1), (2, .int t2)] → W p l e rmX4_highest s m args below meth c H locs 0 0 Q (F0 m 5 ls []) := by
    intro Φ EX n
    induction n with
    | zero =>
      intro t1 t2 H locs ls hf hH hl
      exact (wp_l0 hf).elim
    | succ n ih =>
      intro t1 t2 H locs ls hf hH hl
      have hf := wp_l hf
      refine lv_iload_n hx hb dX4_highest_5 rfl (lv_at hl 2 rfl) ?_
      refine lv_aload_n hx hb dX4_highest_6 rfl (lv_at hl 0 rfl) ?_
      refine k_get (v := .ref (ad 1)) F hK hH 0 inX4_highest_X4 0 mbX4_highest_f9 dX4_highest_7 rfl rfl (by decide) rfl ?_
      refine lv_iconst (v := 0) hx hb dX4_highest_10 (by decide) ?_
      refine k_iald (f := xs) (n := 53) F hK hH 1 dX4_highest_11 (by decide) rfl ?_
      refine lv_icmp_ge (tgt := 46) hx hb dX4_highest_12 (by decide) (fun hc => ?_) (fun hc => ?_)
      · have hf := wp_t hc hf
        have hw := wp_out hf
        exact EX _ _ _ _ hw hH (lv_sub hl [1] rfl)
      · have hf := wp_f hc hf
        refine lv_iload_n hx hb dX4_highest_15 rfl (lv_at hl 1 rfl) ?_
        refine lv_if_lt (tgt := 38) hx hb dX4_highest_16 (by decide) (fun hc => ?_) (fun hc => ?_)
        · have hf := wp_t hc hf
          refine lv_iload_n hx hb dX4_highest_38 rfl (lv_at hl 2 rfl) ?_
          refine lv_istore_n (lv' := [(1, .int t2), (0, .ref (ad 0)), (2, .int t2)]) hx hb dX4_highest_39 rfl hl (by decide) rfl (fun ls hl => ?_)
          refine lv_iinc (v := t2 + 1) (lv' := [(2, .int (t2 + 1)), (1, .int t2), (0, .ref (ad 0))]) hx hb dX4_highest_40 hl (k := 2) rfl rfl (by decide) rfl (fun ls hl => ?_)
          refine lv_goto (tgt := 5) hx hb dX4_highest_43 (by decide) ?_
          have hw := wp_in hf
          exact ih _ _ _ _ _ hw hH (lv_sub hl [2, 1, 0] rfl)
        · have hf := wp_f hc hf
          refine lv_aload_n hx hb dX4_highest_19 rfl (lv_at hl 0 rfl) ?_
          refine k_get (v := .ref (ad 1)) F hK hH 0 inX4_highest_X4 0 mbX4_highest_f9 dX4_highest_20 rfl rfl (by decide) rfl ?_
          refine lv_iload_n hx hb dX4_highest_23 rfl (lv_at hl 2 rfl) ?_
          obtain ⟨x4, hcl, hf⟩ := wp_b hf
          refine k_Si F hK hH hA hl.1 ⟨Nat.zero_le _, Nat.zero_le _⟩ [1] [.ref (ad 1), .int t2] [] (ctX4_top (ad 1) xs t2 hcl) (va_cwS 2 hts gX4_highest_X4_top rfl rfl rfl hdSX4_top ⟨Nat.le_of_ble_eq_true rfl, Nat.le_of_ble_eq_true rfl⟩) dX4_highest_24 rfl rfl (Nat.le_of_ble_eq_true rfl) rfl rfl (by decide) (fun H locs hH => ?_)
          have hH : Hs D A s.heap (wMd cI ad xs xm xi xw xh xl xr xe xn xo xp xu xd) H locs := hH
          refine lv_aload_n hx hb dX4_highest_27 rfl (lv_at hl 0 rfl) ?_
          refine k_get (v := .ref (ad 1)) F hK hH 0 inX4_highest_X4 0 mbX4_highest_f9 dX4_highest_28 rfl rfl (by decide) rfl ?_
          refine lv_iload_n hx hb dX4_highest_31 rfl (lv_at hl 1 rfl) ?_
          obtain ⟨x5, hcl, hf⟩ := wp_b hf
          refine k_Si F hK hH hA hl.1 ⟨Nat.zero_le _, Nat.zero_le _⟩ [1] [.ref (ad 1), .int t1] [.int x4] (ctX4_top (ad 1) xs t1 hcl) (va_cwS 2 hts gX4_highest_X4_top rfl rfl rfl hdSX4_top ⟨Nat.le_of_ble_eq_true rfl, Nat.le_of_ble_eq_true rfl⟩) dX4_highest_32 rfl rfl (Nat.le_of_ble_eq_true rfl) rfl rfl (by decide) (fun H locs hH => ?_)
          have hH : Hs D A s.heap (wMd cI ad xs xm xi xw xh xl xr xe xn xo xp xu xd) H locs := hH
          refine lv_icmp_le (tgt := 40) hx hb dX4_highest_35 (by decide) (fun hc => ?_) (fun hc => ?_)
          · have hf := wp_t hc hf
            refine lv_iinc (v := t2 + 1) (lv' := [(2, .int (t2 + 1)), (0, .ref (ad 0)), (1, .int t1)]) hx hb dX4_highest_40 hl (k := 2) rfl rfl (by decide) rfl (fun ls hl => ?_)
            refine lv_goto (tgt := 5) hx hb dX4_highest_43 (by decide) ?_
            have hw := wp_in hf
            exact ih _ _ _ _ _ hw hH (lv_sub hl [1, 2, 0] rfl)
          · have hf := wp_f hc hf
            refine lv_iload_n hx hb dX4_highest_38 rfl (lv_at hl 2 rfl) ?_
            refine lv_istore_n (lv' := [(1, .int t2), (0, .ref (ad 0)), (2, .int t2)]) hx hb dX4_highest_39 rfl hl (by decide) rfl (fun ls hl => ?_)
            refine lv_iinc (v := t2 + 1) (lv' := [(2, .int (t2 + 1)), (1, .int t2), (0, .ref (ad 0))]) hx hb dX4_highest_40 hl (k := 2) rfl rfl (by decide) rfl (fun ls hl => ?_)
            refine lv_goto (tgt := 5) hx hb dX4_highest_43 (by decide) ?_
            have hw := wp_in hf
            exact ih _ _ _ _ _ hw hH (lv_sub hl [2, 1, 0] rfl)
  refine LP _ (fun t3 H locs ls hf hH hl => ?_) fu _ _ _ _ _ (wp_bb hf) hH (lv_sub hl [2, 1, 0] rfl)
  refine lv_iload_n hx hb dX4_highest_46 rfl (lv_at hl 0 rfl) ?_
  have hrs := wp_s hf
  subst hrs
  exact RET H locs ls 47 dX4_highest_47 rfl hH

def bX4_sameOnes_18 (xs : (Nat → Int32)) (t2 : Int32) : (Int32 × Int32) → Option ((Int32 × Int32) ⊕ (Int32)) := fun ((t4, t5) : Int32 × Int32) =>
  if (xs (Int32.toNatClampNeg 0)) ≤ t5 then
    some (.inr t4)
  else
    Option.bind (fX4_of t2 2) fun x7 =>
    if ob x7 53 then none else
    Option.bind (fX4_of t5 2) fun x8 =>
    if ob x8 53 then none else
    Option.bind (if (xs (Int32.toNatClampNeg x7)) = (xs (Int32.toNatClampNeg x8)) then
        some 1
      else
        some 0) fun (t9 : Int32) =>
    some (.inl (t4 + t9, t5 + 1))

def bX4_sameOnes_4 (xs : (Nat → Int32)) : (Int32 × Int32) → Option ((Int32 × Int32) ⊕ (Int32)) := fun ((t1, t2) : Int32 × Int32) =>
  if (xs (Int32.toNatClampNeg 0)) ≤ t2 then
    some (.inr t1)
  else
    Option.bind (lp (bX4_sameOnes_18 xs t2) fu (t1, t2 + 1)) fun (t6 : Int32) =>
    some (.inl (t6, t2 + 1))

def fX4_sameOnes (xs : (Nat → Int32)) : Option (Int32) :=
  Option.bind (lp (bX4_sameOnes_4 xs) fu (0, 0)) fun (t3 : Int32) =>
  some t3

def rmX4_sameOnes : Room := { frames := 1, cells := 0, slots := 0, locals := 21 }
theorem mbX4_sameOnes_f9 : Cond.fieldLink RX4 9 (TX4 0).1 (TX4 0).2.1 (TX4 0).2.2.1 ∈ wsX4_sameOnes := by decide +kernel
theorem inX4_sameOnes_X4 : ∀ w ∈ wsX40, w ∈ wsX4_sameOnes := by decide +kernel
theorem hdVX4_sameOnes : yX4_sameOnes.cls = RX4 ∧ yX4_sameOnes.cls ≠ "java/lang/invoke/MethodHandle" ∧ yX4_sameOnes.cls ≠ "java/lang/invoke/VarHandle" ∧ (parseMethodDescriptor yX4_sameOnes.desc).map (fun d => d.parameters.length) = some 0 := by decide +kernel
set_option maxHeartbeats 4000000 in
set_option maxRecDepth 100000 in
theorem ctX4_sameOnes {l : Launch} {D : va_G} {cI cJ cQ : ClassId} (ad : Nat → Nat) (xs : (Nat → Int32)) (xm : (Nat → Int32)) (xi : (Nat → Int32)) (xw : (Nat → Int32)) (xh : Int32) (xl : (Nat → Int32)) (xr : (Nat → Int32)) (xe : (Nat → Int32)) (xn : Int32) (xo : Int32) (xp : Int32) (xu : (Nat → Int32)) (xd : Int32)  {res : Int32} (h : fX4_sameOnes xs = some res) : CtI l D cI cJ cQ yX4_sameOnes wsX4_sameOnes rmX4_sameOnes [.ref (ad 0)] (wMd cI ad xs xm xi xw xh xl xr xe xn xo xp xu xd) res (wMd cI ad xs xm xi xw xh xl xr xe xn xo xp xu xd) := by
  refine ctI_of .int (cc := cX4_sameOnes) (maxL := 4) (by decide) rfl (Nat.le_of_ble_eq_true rfl) ?_
  intro p e s m args below meth c A Q ls F hK hA RET hH hl
  obtain ⟨hx, hb, hml, hown, hts⟩ := id F
  have hl : lv_has ls 4 [(0, .ref (ad 0))] := hl
  have hf : wpO (fX4_sameOnes xs) (fun v => v = res) := ⟨_, h, rfl⟩
  obtain ⟨H, eH⟩ : ∃ H, H = s.heap := ⟨_, rfl⟩
  obtain ⟨locs, eL⟩ : ∃ locs : List Loc, locs = [] := ⟨_, rfl⟩
  have hH : Hs D A s.heap (wMd cI ad xs xm xi xw xh xl xr xe xn xo xp xu xd) H locs := by rw [eH, eL]; exact hH
  rw [← eL]
  suffices hgo : W p l e rmX4_sameOnes s m args below meth c H locs 0 0 Q (F0 m 0 ls []) by rw [eH] at hgo; exact hgo
  clear eH eL
  refine lv_iconst (v := 0) hx hb dX4_sameOnes_0 (by decide) ?_
  refine lv_istore_n (lv' := [(1, .int 0), (0, .ref (ad 0))]) hx hb dX4_sameOnes_1 rfl hl (by decide) rfl (fun ls hl => ?_)
  refine lv_iconst (v := 0) hx hb dX4_sameOnes_2 (by decide) ?_
  refine lv_istore_n (lv' := [(2, .int 0), (1, .int 0), (0, .ref (ad 0))]) hx hb dX4_sameOnes_3 rfl hl (by decide) rfl (fun ls hl => ?_)
  have LP : ∀ (Φ : (Int32) → Prop), (∀ (t3 : Int32) (H : Heap) (locs : List Loc) (ls : Array Slot), Φ (t3) → Hs D A s.heap (wMd cI ad xs xm xi xw xh xl xr xe xn xo xp xu xd) H locs → lv_has ls 4 [(1, .int t3)] → W p l e rmX4_sameOnes s m args below meth c H locs 0 0 Q (F0 m 71 ls [])) → ∀ (n : Nat) (t1 : Int32) (t2 : Int32) (H : Heap) (locs : List Loc) (ls : Array Slot), wpO (lp (bX4_sameOnes_4 xs) n (t1, t2)) Φ → Hs D A s.heap (wMd cI ad xs xm xi xw xh xl xr xe xn xo xp xu xd) H locs → lv_has ls 4 [(0, .ref (ad 0)), (1, .int t1), (2, .int t2)] → W p l e rmX4_sameOnes s m args below meth c H locs 0 0 Q (F0 m 4 ls []) := by
    intro Φ EX n
    induction n with
    | zero =>
      intro t1 t2 H locs ls hf hH hl
      exact (wp_l0 hf).elim
    | succ n ih =>
      intro t1 t2 H locs ls hf hH hl
      have hf := wp_l hf
      refine lv_iload_n hx hb dX4_sameOnes_4 rfl (lv_at hl 2 rfl) ?_
      refine lv_aload_n hx hb dX4_sameOnes_5 rfl (lv_at hl 0 rfl) ?_
      refine k_get (v := .ref (ad 1)) F hK hH 0 inX4_sameOnes_X4 0 mbX4_sameOnes_f9 dX4_sameOnes_6 rfl rfl (by decide) rfl ?_
      refine lv_iconst (v := 0) hx hb dX4_sameOnes_9 (by decide) ?_
      refine k_iald (f := xs) (n := 53) F hK hH 1 dX4_sameOnes_10 (by decide) rfl ?_
      refine lv_icmp_ge (tgt := 71) hx hb dX4_sameOnes_11 (by decide) (fun hc => ?_) (fun hc => ?_)
      · have hf := wp_t hc hf
        have hw := wp_out hf
        exact EX _ _ _ _ hw hH (lv_sub hl [1] rfl)
      · have hf := wp_f hc hf
        refine lv_iload_n hx hb dX4_sameOnes_14 rfl (lv_at hl 2 rfl) ?_
        refine lv_iconst (v := 1) hx hb dX4_sameOnes_15 (by decide) ?_
        refine lv_iadd hx hb dX4_sameOnes_16 ?_
        refine lv_istore_n (lv' := [(3, .int (t2 + 1)), (0, .ref (ad 0)), (1, .int t1), (2, .int t2)]) hx hb dX4_sameOnes_17 rfl hl (by decide) rfl (fun ls hl => ?_)
        have LP : ∀ (Φ : (Int32) → Prop), (∀ (t6 : Int32) (H : Heap) (locs : List Loc) (ls : Array Slot), Φ (t6) → Hs D A s.heap (wMd cI ad xs xm xi xw xh xl xr xe xn xo xp xu xd) H locs → lv_has ls 4 [(0, .ref (ad 0)), (1, .int t6), (2, .int t2)] → W p l e rmX4_sameOnes s m args below meth c H locs 0 0 Q (F0 m 65 ls [])) → ∀ (n : Nat) (t4 : Int32) (t5 : Int32) (H : Heap) (locs : List Loc) (ls : Array Slot), wpO (lp (bX4_sameOnes_18 xs t2) n (t4, t5)) Φ → Hs D A s.heap (wMd cI ad xs xm xi xw xh xl xr xe xn xo xp xu xd) H locs → lv_has ls 4 [(0, .ref (ad 0)), (1, .int t4), (2, .int t2), (3, .int t5)] → W p l e rmX4_sameOnes s m args below meth c H locs 0 0 Q (F0 m 18 ls []) := by
          intro Φ EX n
          induction n with
          | zero =>
            intro t4 t5 H locs ls hf hH hl
            exact (wp_l0 hf).elim
          | succ n ih =>
            intro t4 t5 H locs ls hf hH hl
            have hf := wp_l hf
            refine lv_iload_n hx hb dX4_sameOnes_18 rfl (lv_at hl 3 rfl) ?_
            refine lv_aload_n hx hb dX4_sameOnes_19 rfl (lv_at hl 0 rfl) ?_
            refine k_get (v := .ref (ad 1)) F hK hH 0 inX4_sameOnes_X4 0 mbX4_sameOnes_f9 dX4_sameOnes_20 rfl rfl (by decide) rfl ?_
            refine lv_iconst (v := 0) hx hb dX4_sameOnes_23 (by decide) ?_
            refine k_iald (f := xs) (n := 53) F hK hH 1 dX4_sameOnes_24 (by decide) rfl ?_
            refine lv_icmp_ge (tgt := 65) hx hb dX4_sameOnes_25 (by decide) (fun hc => ?_) (fun hc => ?_)
            · have hf := wp_t hc hf
              have hw := wp_out hf
              exact EX _ _ _ _ hw hH (lv_sub hl [0, 1, 2] rfl)
            · have hf := wp_f hc hf
              refine lv_iload_n hx hb dX4_sameOnes_28 rfl (lv_at hl 1 rfl) ?_
              refine lv_aload_n hx hb dX4_sameOnes_29 rfl (lv_at hl 0 rfl) ?_
              refine k_get (v := .ref (ad 1)) F hK hH 0 inX4_sameOnes_X4 0 mbX4_sameOnes_f9 dX4_sameOnes_30 rfl rfl (by decide) rfl ?_
              refine lv_iload_n hx hb dX4_sameOnes_33 rfl (lv_at hl 2 rfl) ?_
              refine lv_iconst (v := 2) hx hb dX4_sameOnes_34 (by decide) ?_
              obtain ⟨x7, hcl, hf⟩ := wp_b hf
              refine k_Si F hK hH hA hl.1 ⟨Nat.zero_le _, Nat.zero_le _⟩ [] [.int t2, .int 2] [.ref (ad 1), .int t4] (ctX4_of t2 2 hcl) (va_cwS 2 hts gX4_sameOnes_X4_of rfl rfl rfl hdSX4_of ⟨Nat.le_of_ble_eq_true rfl, Nat.le_of_ble_eq_true rfl⟩) dX4_sameOnes_35 rfl rfl (Nat.le_of_ble_eq_true rfl) rfl rfl (by decide) (fun H locs hH => ?_)
              have hH : Hs D A s.heap (wMd cI ad xs xm xi xw xh xl xr xe xn xo xp xu xd) H locs := hH
              obtain ⟨hi, hf⟩ := wp_n hf
              refine k_iald (f := xs) (n := 53) F hK hH 1 dX4_sameOnes_38 hi rfl ?_
              refine lv_aload_n hx hb dX4_sameOnes_39 rfl (lv_at hl 0 rfl) ?_
              refine k_get (v := .ref (ad 1)) F hK hH 0 inX4_sameOnes_X4 0 mbX4_sameOnes_f9 dX4_sameOnes_40 rfl rfl (by decide) rfl ?_
              refine lv_iload_n hx hb dX4_sameOnes_43 rfl (lv_at hl 3 rfl) ?_
              refine lv_iconst (v := 2) hx hb dX4_sameOnes_44 (by decide) ?_
              obtain ⟨x8, hcl, hf⟩ := wp_b hf
              refine k_Si F hK hH hA hl.1 ⟨Nat.zero_le _, Nat.zero_le _⟩ [] [.int t5, .int 2] [.ref (ad 1), .int (xs (Int32.toNatClampNeg x7)), .int t4] (ctX4_of t5 2 hcl) (va_cwS 2 hts gX4_sameOnes_X4_of rfl rfl rfl hdSX4_of ⟨Nat.le_of_ble_eq_true rfl, Nat.le_of_ble_eq_true rfl⟩) dX4_sameOnes_45 rfl rfl (Nat.le_of_ble_eq_true rfl) rfl rfl (by decide) (fun H locs hH => ?_)
              have hH : Hs D A s.heap (wMd cI ad xs xm xi xw xh xl xr xe xn xo xp xu xd) H locs := hH
              obtain ⟨hi, hf⟩ := wp_n hf
              refine k_iald (f := xs) (n := 53) F hK hH 1 dX4_sameOnes_48 hi rfl ?_
              refine join_ (α := Int32) (fun Φ => ∀ (t9 : Int32) (H : Heap) (locs : List Loc) (ls : Array Slot), Φ t9 → Hs D A s.heap (wMd cI ad xs xm xi xw xh xl xr xe xn xo xp xu xd) H locs → lv_has ls 4 [(0, .ref (ad 0)), (2, .int t2), (3, .int t5)] → W p l e rmX4_sameOnes s m args below meth c H locs 0 0 Q (F0 m 57 ls [.int t9, .int t4])) (wp_bb hf) ?_ ?_
              · intro t9 H locs ls hf hH hl
                refine lv_iadd hx hb dX4_sameOnes_57 ?_
                refine lv_istore_n (lv' := [(1, .int (t4 + t9)), (0, .ref (ad 0)), (2, .int t2), (3, .int t5)]) hx hb dX4_sameOnes_58 rfl hl (by decide) rfl (fun ls hl => ?_)
                refine lv_iinc (v := t5 + 1) (lv' := [(3, .int (t5 + 1)), (1, .int (t4 + t9)), (0, .ref (ad 0)), (2, .int t2)]) hx hb dX4_sameOnes_59 hl (k := 3) rfl rfl (by decide) rfl (fun ls hl => ?_)
                refine lv_goto (tgt := 18) hx hb dX4_sameOnes_62 (by decide) ?_
                have hw := wp_in hf
                exact ih _ _ _ _ _ hw hH (lv_sub hl [2, 1, 3, 0] rfl)
              · intro Φ JJ hf
                refine lv_icmp_ne (tgt := 56) hx hb dX4_sameOnes_49 (by decide) (fun hc => ?_) (fun hc => ?_)
                · have hf := wp_f hc hf
                  refine lv_iconst (v := 0) hx hb dX4_sameOnes_56 (by decide) ?_
                  have hw := wp_s hf
                  exact JJ _ _ _ _ hw hH (lv_sub hl [0, 2, 3] rfl)
                · have hf := wp_t hc hf
                  refine lv_iconst (v := 1) hx hb dX4_sameOnes_52 (by decide) ?_
                  refine lv_goto (tgt := 57) hx hb dX4_sameOnes_53 (by decide) ?_
                  have hw := wp_s hf
                  exact JJ _ _ _ _ hw hH (lv_sub hl [0, 2, 3] rfl)
        refine LP _ (fun t6 H locs ls hf hH hl => ?_) fu _ _ _ _ _ (wp_bb hf) hH (lv_sub hl [1, 2, 3, 0] rfl)
        refine lv_iinc (v := t2 + 1) (lv' := [(2, .int (t2 + 1)), (0, .ref (ad 0)), (1, .int t6)]) hx hb dX4_sameOnes_65 hl (k := 2) rfl rfl (by decide) rfl (fun ls hl => ?_)
        refine lv_goto (tgt := 4) hx hb dX4_sameOnes_68 (by decide) ?_
        have hw := wp_in hf
        exact ih _ _ _ _ _ hw hH (lv_sub hl [1, 2, 0] rfl)
  refine LP _ (fun t3 H locs ls hf hH hl => ?_) fu _ _ _ _ _ (wp_bb hf) hH (lv_sub hl [2, 1, 0] rfl)
  refine lv_iload_n hx hb dX4_sameOnes_71 rfl (lv_at hl 0 rfl) ?_
  have hrs := wp_s hf
  subst hrs
  exact RET H locs ls 72 dX4_sameOnes_72 rfl hH

def bX4_lostOnes_13 (xs : (Nat → Int32)) : (Int32 × Int32) → Option ((Int32 × Int32) ⊕ (Int32)) := fun ((t1, t2) : Int32 × Int32) =>
  if (10 : Int32) ≤ t2 then
    some (.inr t1)
  else
    Option.bind (fX4_seenIn t2 xs) fun x4 =>
    some (.inl (t1 &&& (x4 ^^^ (-1)), t2 + 1))

def fX4_lostOnes (xs : (Nat → Int32)) : Option (Int32) :=
  Option.bind (lp (bX4_lostOnes_13 xs) fu (((1 : Int32) <<< ((xs (Int32.toNatClampNeg 0)) &&& 31)) - 1, 0)) fun (t3 : Int32) =>
  some t3

def rmX4_lostOnes : Room := { frames := 3, cells := 0, slots := 0, locals := 66 }
theorem mbX4_lostOnes_f9 : Cond.fieldLink RX4 9 (TX4 0).1 (TX4 0).2.1 (TX4 0).2.2.1 ∈ wsX4_lostOnes := by decide +kernel
theorem inX4_lostOnes_X4 : ∀ w ∈ wsX40, w ∈ wsX4_lostOnes := by decide +kernel
theorem hdVX4_lostOnes : yX4_lostOnes.cls = RX4 ∧ yX4_lostOnes.cls ≠ "java/lang/invoke/MethodHandle" ∧ yX4_lostOnes.cls ≠ "java/lang/invoke/VarHandle" ∧ (parseMethodDescriptor yX4_lostOnes.desc).map (fun d => d.parameters.length) = some 0 := by decide +kernel
set_option maxHeartbeats 4000000 in
set_option maxRecDepth 100000 in
theorem ctX4_lostOnes {l : Launch} {D : va_G} {cI cJ cQ : ClassId} (ad : Nat → Nat) (xs : (Nat → Int32)) (xm : (Nat → Int32)) (xi : (Nat → Int32)) (xw : (Nat → Int32)) (xh : Int32) (xl : (Nat → Int32)) (xr : (Nat → Int32)) (xe : (Nat → Int32)) (xn : Int32) (xo : Int32) (xp : Int32) (xu : (Nat → Int32)) (xd : Int32)  {res : Int32} (h : fX4_lostOnes xs = some res) : CtI l D cI cJ cQ yX4_lostOnes wsX4_lostOnes rmX4_lostOnes [.ref (ad 0)] (wMd cI ad xs xm xi xw xh xl xr xe xn xo xp xu xd) res (wMd cI ad xs xm xi xw xh xl xr xe xn xo xp xu xd) := by
  refine ctI_of .int (cc := cX4_lostOnes) (maxL := 3) (by decide) rfl (Nat.le_of_ble_eq_true rfl) ?_
  intro p e s m args below meth c A Q ls F hK hA RET hH hl
  obtain ⟨hx, hb, hml, hown, hts⟩ := id F
  have hl : lv_has ls 3 [(0, .ref (ad 0))] := hl
  have hf : wpO (fX4_lostOnes xs) (fun v => v = res) := ⟨_, h, rfl⟩
  obtain ⟨H, eH⟩ : ∃ H, H = s.heap := ⟨_, rfl⟩
  obtain ⟨locs, eL⟩ : ∃ locs : List Loc, locs = [] := ⟨_, rfl⟩
  have hH : Hs D A s.heap (wMd cI ad xs xm xi xw xh xl xr xe xn xo xp xu xd) H locs := by rw [eH, eL]; exact hH
  rw [← eL]
  suffices hgo : W p l e rmX4_lostOnes s m args below meth c H locs 0 0 Q (F0 m 0 ls []) by rw [eH] at hgo; exact hgo
  clear eH eL
  refine lv_iconst (v := 1) hx hb dX4_lostOnes_0 (by decide) ?_
  refine lv_aload_n hx hb dX4_lostOnes_1 rfl (lv_at hl 0 rfl) ?_
  refine k_get (v := .ref (ad 1)) F hK hH 0 inX4_lostOnes_X4 0 mbX4_lostOnes_f9 dX4_lostOnes_2 rfl rfl (by decide) rfl ?_
  refine lv_iconst (v := 0) hx hb dX4_lostOnes_5 (by decide) ?_
  refine k_iald (f := xs) (n := 53) F hK hH 1 dX4_lostOnes_6 (by decide) rfl ?_
  refine lv_ishl hx hb dX4_lostOnes_7 ?_
  refine lv_iconst (v := 1) hx hb dX4_lostOnes_8 (by decide) ?_
  refine lv_isub hx hb dX4_lostOnes_9 ?_
  refine lv_istore_n (lv' := [(1, .int (((1 : Int32) <<< ((xs (Int32.toNatClampNeg 0)) &&& 31)) - 1)), (0, .ref (ad 0))]) hx hb dX4_lostOnes_10 rfl hl (by decide) rfl (fun ls hl => ?_)
  refine lv_iconst (v := 0) hx hb dX4_lostOnes_11 (by decide) ?_
  refine lv_istore_n (lv' := [(2, .int 0), (1, .int (((1 : Int32) <<< ((xs (Int32.toNatClampNeg 0)) &&& 31)) - 1)), (0, .ref (ad 0))]) hx hb dX4_lostOnes_12 rfl hl (by decide) rfl (fun ls hl => ?_)
  have LP : ∀ (Φ : (Int32) → Prop), (∀ (t3 : Int32) (H : Heap) (locs : List Loc) (ls : Array Slot), Φ (t3) → Hs D A s.heap (wMd cI ad xs xm xi xw xh xl xr xe xn xo xp xu xd) H locs → lv_has ls 3 [(1, .int t3)] → W p l e rmX4_lostOnes s m args below meth c H locs 0 0 Q (F0 m 38 ls [])) → ∀ (n : Nat) (t1 : Int32) (t2 : Int32) (H : Heap) (locs : List Loc) (ls : Array Slot), wpO (lp (bX4_lostOnes_13 xs) n (t1, t2)) Φ → Hs D A s.heap (wMd cI ad xs xm xi xw xh xl xr xe xn xo xp xu xd) H locs → lv_has ls 3 [(0, .ref (ad 0)), (1, .int t1), (2, .int t2)] → W p l e rmX4_lostOnes s m args below meth c H locs 0 0 Q (F0 m 13 ls []) := by
    intro Φ EX n
    induction n with
    | zero =>
      intro t1 t2 H locs ls hf hH hl
      exact (wp_l0 hf).elim
    | succ n ih =>
      intro t1 t2 H locs ls hf hH hl
      have hf := wp_l hf
      refine lv_iload_n hx hb dX4_lostOnes_13 rfl (lv_at hl 2 rfl) ?_
      refine lv_bipush (v := 10) hx hb dX4_lostOnes_14 (by decide) ?_
      refine lv_icmp_ge (tgt := 38) hx hb dX4_lostOnes_16 (by decide) (fun hc => ?_) (fun hc => ?_)
      · have hf := wp_t hc hf
        have hw := wp_out hf
        exact EX _ _ _ _ hw hH (lv_sub hl [1] rfl)
      · have hf := wp_f hc hf
        refine lv_iload_n hx hb dX4_lostOnes_19 rfl (lv_at hl 1 rfl) ?_
        refine lv_aload_n hx hb dX4_lostOnes_20 rfl (lv_at hl 0 rfl) ?_
        refine k_get (v := .ref (ad 1)) F hK hH 0 inX4_lostOnes_X4 0 mbX4_lostOnes_f9 dX4_lostOnes_21 rfl rfl (by decide) rfl ?_
        refine lv_iload_n hx hb dX4_lostOnes_24 rfl (lv_at hl 2 rfl) ?_
        obtain ⟨x4, hcl, hf⟩ := wp_b hf
        refine k_Si F hK hH hA hl.1 ⟨Nat.zero_le _, Nat.zero_le _⟩ [1] [.ref (ad 1), .int t2] [.int t1] (ctX4_seenIn (ad 1) xs t2 hcl) (va_cwS 2 hts gX4_lostOnes_X4_seenIn rfl rfl rfl hdSX4_seenIn ⟨Nat.le_of_ble_eq_true rfl, Nat.le_of_ble_eq_true rfl⟩) dX4_lostOnes_25 rfl rfl (Nat.le_of_ble_eq_true rfl) rfl rfl (by decide) (fun H locs hH => ?_)
        have hH : Hs D A s.heap (wMd cI ad xs xm xi xw xh xl xr xe xn xo xp xu xd) H locs := hH
        refine lv_iconst (v := (-1)) hx hb dX4_lostOnes_28 (by decide) ?_
        refine lv_ixor hx hb dX4_lostOnes_29 ?_
        refine lv_iand hx hb dX4_lostOnes_30 ?_
        refine lv_istore_n (lv' := [(1, .int (t1 &&& (x4 ^^^ (-1)))), (0, .ref (ad 0)), (2, .int t2)]) hx hb dX4_lostOnes_31 rfl hl (by decide) rfl (fun ls hl => ?_)
        refine lv_iinc (v := t2 + 1) (lv' := [(2, .int (t2 + 1)), (1, .int (t1 &&& (x4 ^^^ (-1)))), (0, .ref (ad 0))]) hx hb dX4_lostOnes_32 hl (k := 2) rfl rfl (by decide) rfl (fun ls hl => ?_)
        refine lv_goto (tgt := 13) hx hb dX4_lostOnes_35 (by decide) ?_
        have hw := wp_in hf
        exact ih _ _ _ _ _ hw hH (lv_sub hl [2, 1, 0] rfl)
  refine LP _ (fun t3 H locs ls hf hH hl => ?_) fu _ _ _ _ _ (wp_bb hf) hH (lv_sub hl [2, 1, 0] rfl)
  refine lv_iload_n hx hb dX4_lostOnes_38 rfl (lv_at hl 0 rfl) ?_
  have hrs := wp_s hf
  subst hrs
  exact RET H locs ls 39 dX4_lostOnes_39 rfl hH

def bX4_window_20 (xs : (Nat → Int32)) : (Int32 × Int32) → Option ((Int32 × Int32) ⊕ (Int32)) := fun ((t2, t3) : Int32 × Int32) =>
  if (10 : Int32) ≤ t3 then
    some (.inr t2)
  else
    Option.bind (fX4_runFrom t3 xs) fun x5 =>
    Option.bind (fX4_runFrom t2 xs) fun x6 =>
    if x5 ≤ x6 then
      some (.inl (t2, t3 + 1))
    else
      some (.inl (t3, t3 + 1))

def fX4_window (v1 : Int32) (xs : (Nat → Int32)) (xe : (Nat → Int32)) : Option (Int32 × (Nat → Int32)) :=
  Option.bind (fX4_isIn v1 0 4) fun x1 =>
  if x1 = 0 then
    Option.bind (fX4_no (-2) xe) fun x11 =>
    some (x11.1, x11.2)
  else
    Option.bind (lp (bX4_window_20 xs) fu (0, 0)) fun (t4 : Int32) =>
    if v1 = 0 then
      Option.bind (fX4_runFrom t4 xs) fun x10 =>
      some (x10, xe)
    else
      if v1 = 1 then
        some (t4, xe)
      else
        if v1 = 2 then
          Option.bind (fX4_highest xs) fun x9 =>
          some (x9, xe)
        else
          if v1 = 3 then
            Option.bind (fX4_sameOnes xs) fun x8 =>
            some (x8, xe)
          else
            Option.bind (fX4_lostOnes xs) fun x7 =>
            some (x7, xe)

def rmX4_window : Room := { frames := 6, cells := 0, slots := 0, locals := 135 }
theorem hdVX4_window : yX4_window.cls = RX4 ∧ yX4_window.cls ≠ "java/lang/invoke/MethodHandle" ∧ yX4_window.cls ≠ "java/lang/invoke/VarHandle" ∧ (parseMethodDescriptor yX4_window.desc).map (fun d => d.parameters.length) = some 1 := by decide +kernel
set_option maxHeartbeats 4000000 in
set_option maxRecDepth 100000 in
theorem ctX4_window {l : Launch} {D : va_G} {cI cJ cQ : ClassId} (ad : Nat → Nat) (xs : (Nat → Int32)) (xm : (Nat → Int32)) (xi : (Nat → Int32)) (xw : (Nat → Int32)) (xh : Int32) (xl : (Nat → Int32)) (xr : (Nat → Int32)) (xe : (Nat → Int32)) (xn : Int32) (xo : Int32) (xp : Int32) (xu : (Nat → Int32)) (xd : Int32) (v1 : Int32) {res : Int32 × (Nat → Int32)} (h : fX4_window v1 xs xe = some res) : CtI l D cI cJ cQ yX4_window wsX4_window rmX4_window [.ref (ad 0), .int v1] (wMd cI ad xs xm xi xw xh xl xr xe xn xo xp xu xd) res.1 (wMd cI ad xs xm xi xw xh xl xr res.2 xn xo xp xu xd) := by
  refine ctI_of .int (cc := cX4_window) (maxL := 4) (by decide) rfl (Nat.le_of_ble_eq_true rfl) ?_
  intro p e s m args below meth c A Q ls F hK hA RET hH hl
  obtain ⟨hx, hb, hml, hown, hts⟩ := id F
  have hl : lv_has ls 4 [(0, .ref (ad 0)), (1, .int v1)] := hl
  have hf : wpO (fX4_window v1 xs xe) (fun v => v = res) := ⟨_, h, rfl⟩
  obtain ⟨H, eH⟩ : ∃ H, H = s.heap := ⟨_, rfl⟩
  obtain ⟨locs, eL⟩ : ∃ locs : List Loc, locs = [] := ⟨_, rfl⟩
  have hH : Hs D A s.heap (wMd cI ad xs xm xi xw xh xl xr xe xn xo xp xu xd) H locs := by rw [eH, eL]; exact hH
  rw [← eL]
  suffices hgo : W p l e rmX4_window s m args below meth c H locs 0 0 Q (F0 m 0 ls []) by rw [eH] at hgo; exact hgo
  clear eH eL
  refine lv_iload_n hx hb dX4_window_0 rfl (lv_at hl 1 rfl) ?_
  refine lv_iconst (v := 0) hx hb dX4_window_1 (by decide) ?_
  refine lv_iconst (v := 4) hx hb dX4_window_2 (by decide) ?_
  obtain ⟨x1, hcl, hf⟩ := wp_b hf
  refine k_Si F hK hH hA hl.1 ⟨Nat.zero_le _, Nat.zero_le _⟩ [] [.int v1, .int 0, .int 4] [] (ctX4_isIn v1 0 4 hcl) (va_cwS 3 hts gX4_window_X4_isIn rfl rfl rfl hdSX4_isIn ⟨Nat.le_of_ble_eq_true rfl, Nat.le_of_ble_eq_true rfl⟩) dX4_window_3 rfl rfl (Nat.le_of_ble_eq_true rfl) rfl rfl (by decide) (fun H locs hH => ?_)
  have hH : Hs D A s.heap (wMd cI ad xs xm xi xw xh xl xr xe xn xo xp xu xd) H locs := hH
  refine lv_if_ne (tgt := 16) hx hb dX4_window_6 (by decide) (fun hc => ?_) (fun hc => ?_)
  · have hf := wp_f hc hf
    refine lv_iconst (v := 0) hx hb dX4_window_16 (by decide) ?_
    refine lv_istore_n (lv' := [(2, .int 0), (0, .ref (ad 0)), (1, .int v1)]) hx hb dX4_window_17 rfl hl (by decide) rfl (fun ls hl => ?_)
    refine lv_iconst (v := 0) hx hb dX4_window_18 (by decide) ?_
    refine lv_istore_n (lv' := [(3, .int 0), (2, .int 0), (0, .ref (ad 0)), (1, .int v1)]) hx hb dX4_window_19 rfl hl (by decide) rfl (fun ls hl => ?_)
    have LP : ∀ (Φ : (Int32) → Prop), (∀ (t4 : Int32) (H : Heap) (locs : List Loc) (ls : Array Slot), Φ (t4) → Hs D A s.heap (wMd cI ad xs xm xi xw xh xl xr xe xn xo xp xu xd) H locs → lv_has ls 4 [(0, .ref (ad 0)), (1, .int v1), (2, .int t4)] → W p l e rmX4_window s m args below meth c H locs 0 0 Q (F0 m 47 ls [])) → ∀ (n : Nat) (t2 : Int32) (t3 : Int32) (H : Heap) (locs : List Loc) (ls : Array Slot), wpO (lp (bX4_window_20 xs) n (t2, t3)) Φ → Hs D A s.heap (wMd cI ad xs xm xi xw xh xl xr xe xn xo xp xu xd) H locs → lv_has ls 4 [(0, .ref (ad 0)), (1, .int v1), (2, .int t2), (3, .int t3)] → W p l e rmX4_window s m args below meth c H locs 0 0 Q (F0 m 20 ls []) := by
      intro Φ EX n
      induction n with
      | zero =>
        intro t2 t3 H locs ls hf hH hl
        exact (wp_l0 hf).elim
      | succ n ih =>
        intro t2 t3 H locs ls hf hH hl
        have hf := wp_l hf
        refine lv_iload_n hx hb dX4_window_20 rfl (lv_at hl 3 rfl) ?_
        refine lv_bipush (v := 10) hx hb dX4_window_21 (by decide) ?_
        refine lv_icmp_ge (tgt := 47) hx hb dX4_window_23 (by decide) (fun hc => ?_) (fun hc => ?_)
        · have hf := wp_t hc hf
          have hw := wp_out hf
          exact EX _ _ _ _ hw hH (lv_sub hl [0, 1, 2] rfl)
        · have hf := wp_f hc hf
          refine lv_aload_n hx hb dX4_window_26 rfl (lv_at hl 0 rfl) ?_
          refine lv_iload_n hx hb dX4_window_27 rfl (lv_at hl 3 rfl) ?_
          obtain ⟨x5, hcl, hf⟩ := wp_b hf
          refine k_Vi0 F hK hH hA hl.1 ⟨Nat.zero_le _, Nat.zero_le _⟩ [.int t3] [] (ctX4_runFrom ad xs xm xi xw xh xl xr xe xn xo xp xu xd t3 hcl) (cwV 1 hts gX4_window_X4_runFrom rfl rfl rfl hdVX4_runFrom ⟨Nat.le_of_ble_eq_true rfl, Nat.le_of_ble_eq_true rfl⟩) dX4_window_28 0 rfl rfl rfl rfl rfl (Nat.le_of_ble_eq_true rfl) rfl (fun H locs hH => ?_)
          have hH : Hs D A s.heap (wMd cI ad xs xm xi xw xh xl xr xe xn xo xp xu xd) H locs := hH
          refine lv_aload_n hx hb dX4_window_31 rfl (lv_at hl 0 rfl) ?_
          refine lv_iload_n hx hb dX4_window_32 rfl (lv_at hl 2 rfl) ?_
          obtain ⟨x6, hcl, hf⟩ := wp_b hf
          refine k_Vi0 F hK hH hA hl.1 ⟨Nat.zero_le _, Nat.zero_le _⟩ [.int t2] [.int x5] (ctX4_runFrom ad xs xm xi xw xh xl xr xe xn xo xp xu xd t2 hcl) (cwV 1 hts gX4_window_X4_runFrom rfl rfl rfl hdVX4_runFrom ⟨Nat.le_of_ble_eq_true rfl, Nat.le_of_ble_eq_true rfl⟩) dX4_window_33 0 rfl rfl rfl rfl rfl (Nat.le_of_ble_eq_true rfl) rfl (fun H locs hH => ?_)
          have hH : Hs D A s.heap (wMd cI ad xs xm xi xw xh xl xr xe xn xo xp xu xd) H locs := hH
          refine lv_icmp_le (tgt := 41) hx hb dX4_window_36 (by decide) (fun hc => ?_) (fun hc => ?_)
          · have hf := wp_t hc hf
            refine lv_iinc (v := t3 + 1) (lv' := [(3, .int (t3 + 1)), (0, .ref (ad 0)), (1, .int v1), (2, .int t2)]) hx hb dX4_window_41 hl (k := 3) rfl rfl (by decide) rfl (fun ls hl => ?_)
            refine lv_goto (tgt := 20) hx hb dX4_window_44 (by decide) ?_
            have hw := wp_in hf
            exact ih _ _ _ _ _ hw hH (lv_sub hl [1, 2, 3, 0] rfl)
          · have hf := wp_f hc hf
            refine lv_iload_n hx hb dX4_window_39 rfl (lv_at hl 3 rfl) ?_
            refine lv_istore_n (lv' := [(2, .int t3), (0, .ref (ad 0)), (1, .int v1), (3, .int t3)]) hx hb dX4_window_40 rfl hl (by decide) rfl (fun ls hl => ?_)
            refine lv_iinc (v := t3 + 1) (lv' := [(3, .int (t3 + 1)), (2, .int t3), (0, .ref (ad 0)), (1, .int v1)]) hx hb dX4_window_41 hl (k := 3) rfl rfl (by decide) rfl (fun ls hl => ?_)
            refine lv_goto (tgt := 20) hx hb dX4_window_44 (by decide) ?_
            have hw := wp_in hf
            exact ih _ _ _ _ _ hw hH (lv_sub hl [2, 3, 1, 0] rfl)
    refine LP _ (fun t4 H locs ls hf hH hl => ?_) fu _ _ _ _ _ (wp_bb hf) hH (lv_sub hl [2, 3, 1, 0] rfl)
    refine lv_iload_n hx hb dX4_window_47 rfl (lv_at hl 1 rfl) ?_
    refine lv_if_ne (tgt := 59) hx hb dX4_window_48 (by decide) (fun hc => ?_) (fun hc => ?_)
    · have hf := wp_f hc hf
      refine lv_iload_n hx hb dX4_window_59 rfl (lv_at hl 1 rfl) ?_
      refine lv_iconst (v := 1) hx hb dX4_window_60 (by decide) ?_
      refine lv_icmp_ne (tgt := 68) hx hb dX4_window_61 (by decide) (fun hc => ?_) (fun hc => ?_)
      · have hf := wp_f hc hf
        refine lv_iload_n hx hb dX4_window_68 rfl (lv_at hl 1 rfl) ?_
        refine lv_iconst (v := 2) hx hb dX4_window_69 (by decide) ?_
        refine lv_icmp_ne (tgt := 80) hx hb dX4_window_70 (by decide) (fun hc => ?_) (fun hc => ?_)
        · have hf := wp_f hc hf
          refine lv_iload_n hx hb dX4_window_80 rfl (lv_at hl 1 rfl) ?_
          refine lv_iconst (v := 3) hx hb dX4_window_81 (by decide) ?_
          refine lv_icmp_ne (tgt := 92) hx hb dX4_window_82 (by decide) (fun hc => ?_) (fun hc => ?_)
          · have hf := wp_f hc hf
            refine lv_aload_n hx hb dX4_window_92 rfl (lv_at hl 0 rfl) ?_
            obtain ⟨x7, hcl, hf⟩ := wp_b hf
            refine k_Vi0 F hK hH hA hl.1 ⟨Nat.zero_le _, Nat.zero_le _⟩ [] [] (ctX4_lostOnes ad xs xm xi xw xh xl xr xe xn xo xp xu xd hcl) (cwV 0 hts gX4_window_X4_lostOnes rfl rfl rfl hdVX4_lostOnes ⟨Nat.le_of_ble_eq_true rfl, Nat.le_of_ble_eq_true rfl⟩) dX4_window_93 0 rfl rfl rfl rfl rfl (Nat.le_of_ble_eq_true rfl) rfl (fun H locs hH => ?_)
            have hH : Hs D A s.heap (wMd cI ad xs xm xi xw xh xl xr xe xn xo xp xu xd) H locs := hH
            have hrs := wp_s hf
            subst hrs
            exact RET H locs ls 96 dX4_window_96 rfl hH
          · have hf := wp_t hc hf
            refine lv_aload_n hx hb dX4_window_85 rfl (lv_at hl 0 rfl) ?_
            obtain ⟨x8, hcl, hf⟩ := wp_b hf
            refine k_Vi0 F hK hH hA hl.1 ⟨Nat.zero_le _, Nat.zero_le _⟩ [] [] (ctX4_sameOnes ad xs xm xi xw xh xl xr xe xn xo xp xu xd hcl) (cwV 0 hts gX4_window_X4_sameOnes rfl rfl rfl hdVX4_sameOnes ⟨Nat.le_of_ble_eq_true rfl, Nat.le_of_ble_eq_true rfl⟩) dX4_window_86 0 rfl rfl rfl rfl rfl (Nat.le_of_ble_eq_true rfl) rfl (fun H locs hH => ?_)
            have hH : Hs D A s.heap (wMd cI ad xs xm xi xw xh xl xr xe xn xo xp xu xd) H locs := hH
            refine lv_goto (tgt := 96) hx hb dX4_window_89 (by decide) ?_
            have hrs := wp_s hf
            subst hrs
            exact RET H locs ls 96 dX4_window_96 rfl hH
        · have hf := wp_t hc hf
          refine lv_aload_n hx hb dX4_window_73 rfl (lv_at hl 0 rfl) ?_
          obtain ⟨x9, hcl, hf⟩ := wp_b hf
          refine k_Vi0 F hK hH hA hl.1 ⟨Nat.zero_le _, Nat.zero_le _⟩ [] [] (ctX4_highest ad xs xm xi xw xh xl xr xe xn xo xp xu xd hcl) (cwV 0 hts gX4_window_X4_highest rfl rfl rfl hdVX4_highest ⟨Nat.le_of_ble_eq_true rfl, Nat.le_of_ble_eq_true rfl⟩) dX4_window_74 0 rfl rfl rfl rfl rfl (Nat.le_of_ble_eq_true rfl) rfl (fun H locs hH => ?_)
          have hH : Hs D A s.heap (wMd cI ad xs xm xi xw xh xl xr xe xn xo xp xu xd) H locs := hH
          refine lv_goto (tgt := 96) hx hb dX4_window_77 (by decide) ?_
          have hrs := wp_s hf
          subst hrs
          exact RET H locs ls 96 dX4_window_96 rfl hH
      · have hf := wp_t hc hf
        refine lv_iload_n hx hb dX4_window_64 rfl (lv_at hl 2 rfl) ?_
        refine lv_goto (tgt := 96) hx hb dX4_window_65 (by decide) ?_
        have hrs := wp_s hf
        subst hrs
        exact RET H locs ls 96 dX4_window_96 rfl hH
    · have hf := wp_t hc hf
      refine lv_aload_n hx hb dX4_window_51 rfl (lv_at hl 0 rfl) ?_
      refine lv_iload_n hx hb dX4_window_52 rfl (lv_at hl 2 rfl) ?_
      obtain ⟨x10, hcl, hf⟩ := wp_b hf
      refine k_Vi0 F hK hH hA hl.1 ⟨Nat.zero_le _, Nat.zero_le _⟩ [.int t4] [] (ctX4_runFrom ad xs xm xi xw xh xl xr xe xn xo xp xu xd t4 hcl) (cwV 1 hts gX4_window_X4_runFrom rfl rfl rfl hdVX4_runFrom ⟨Nat.le_of_ble_eq_true rfl, Nat.le_of_ble_eq_true rfl⟩) dX4_window_53 0 rfl rfl rfl rfl rfl (Nat.le_of_ble_eq_true rfl) rfl (fun H locs hH => ?_)
      have hH : Hs D A s.heap (wMd cI ad xs xm xi xw xh xl xr xe xn xo xp xu xd) H locs := hH
      refine lv_goto (tgt := 96) hx hb dX4_window_56 (by decide) ?_
      have hrs := wp_s hf
      subst hrs
      exact RET H locs ls 96 dX4_window_96 rfl hH
  · have hf := wp_t hc hf
    refine lv_aload_n hx hb dX4_window_9 rfl (lv_at hl 0 rfl) ?_
    refine lv_bipush (v := (-2)) hx hb dX4_window_10 (by decide) ?_
    obtain ⟨x11, hcl, hf⟩ := wp_b hf
    refine k_Vi0 F hK hH hA hl.1 ⟨Nat.zero_le _, Nat.zero_le _⟩ [.int (-2)] [] (ctX4_no ad xs xm xi xw xh xl xr xe xn xo xp xu xd (-2) hcl) (cwV 1 hts gX4_window_X4_no rfl rfl rfl hdVX4_no ⟨Nat.le_of_ble_eq_true rfl, Nat.le_of_ble_eq_true rfl⟩) dX4_window_12 0 rfl rfl rfl rfl rfl (Nat.le_of_ble_eq_true rfl) rfl (fun H locs hH => ?_)
    have hH : Hs D A s.heap (wMd cI ad xs xm xi xw xh xl xr x11.2 xn xo xp xu xd) H locs := hH
    refine W.eq (g2 := F0 m 15 ls [.int x11.1]) rfl ?_
    have hrs := wp_s hf
    subst hrs
    exact RET H locs ls 15 dX4_window_15 rfl hH

def fX4_leadBy (v1 : Int32) (v2 : Int32) (v3 : Int32) (v4 : Int32) (v5 : Int32) (xs : (Nat → Int32)) (xm : (Nat → Int32)) : Option (Int32 × (Nat → Int32)) :=
  Option.bind (fX4_copies xs xm) fun x1 =>
  Option.bind (fX4_of v1 2) fun x2 =>
  Option.bind (fX4_of v1 2) fun x3 =>
  if ob x3 53 then none else
  if ob x2 53 then none else
  Option.bind (fX4_of v3 2) fun x4 =>
  Option.bind (fX4_of v3 2) fun x5 =>
  if ob x5 53 then none else
  if ob x4 53 then none else
  Option.bind (fX4_hoursOn v5 (upd (upd x1 (Int32.toNatClampNeg x2) (irem ((x1 (Int32.toNatClampNeg x3)) + v2) 16)) (Int32.toNatClampNeg x4) (irem (((upd x1 (Int32.toNatClampNeg x2) (irem ((x1 (Int32.toNatClampNeg x3)) + v2) 16)) (Int32.toNatClampNeg x5)) + v4) 16))) fun x6 =>
  Option.bind (fX4_branchesIn 1 x6) fun x7 =>
  Option.bind (fX4_bits x7) fun x8 =>
  Option.bind (fX4_branchesIn 2 x6) fun x9 =>
  Option.bind (fX4_bits x9) fun x10 =>
  some (x8 - x10, x6)

def rmX4_leadBy : Room := { frames := 6, cells := 0, slots := 0, locals := 136 }
theorem mbX4_leadBy_f9 : Cond.fieldLink RX4 9 (TX4 0).1 (TX4 0).2.1 (TX4 0).2.2.1 ∈ wsX4_leadBy := by decide +kernel
theorem inX4_leadBy_X4 : ∀ w ∈ wsX40, w ∈ wsX4_leadBy := by decide +kernel
theorem mbX4_leadBy_f13 : Cond.fieldLink RX4 13 (TX4 1).1 (TX4 1).2.1 (TX4 1).2.2.1 ∈ wsX4_leadBy := by decide +kernel
theorem hdVX4_leadBy : yX4_leadBy.cls = RX4 ∧ yX4_leadBy.cls ≠ "java/lang/invoke/MethodHandle" ∧ yX4_leadBy.cls ≠ "java/lang/invoke/VarHandle" ∧ (parseMethodDescriptor yX4_leadBy.desc).map (fun d => d.parameters.length) = some 5 := by decide +kernel
set_option maxHeartbeats 4000000 in
set_option maxRecDepth 100000 in
theorem ctX4_leadBy {l : Launch} {D : va_G} {cI cJ cQ : ClassId} (ad : Nat → Nat) (xs : (Nat → Int32)) (xm : (Nat → Int32)) (xi : (Nat → Int32)) (xw : (Nat → Int32)) (xh : Int32) (xl : (Nat → Int32)) (xr : (Nat → Int32)) (xe : (Nat → Int32)) (xn : Int32) (xo : Int32) (xp : Int32) (xu : (Nat → Int32)) (xd : Int32) (v1 : Int32) (v2 : Int32) (v3 : Int32) (v4 : Int32) (v5 : Int32) {res : Int32 × (Nat → Int32)} (h : fX4_leadBy v1 v2 v3 v4 v5 xs xm = some res) : CtI l D cI cJ cQ yX4_leadBy wsX4_leadBy rmX4_leadBy [.ref (ad 0), .int v1, .int v2, .int v3, .int v4, .int v5] (wMd cI ad xs xm xi xw xh xl xr xe xn xo xp xu xd) res.1 (wMd cI ad xs res.2 xi xw xh xl xr xe xn xo xp xu xd) := by
  refine ctI_of .int (cc := cX4_leadBy) (maxL := 6) (by decide) rfl (Nat.le_of_ble_eq_true rfl) ?_
  intro p e s m args below meth c A Q ls F hK hA RET hH hl
  obtain ⟨hx, hb, hml, hown, hts⟩ := id F
  have hl : lv_has ls 6 [(0, .ref (ad 0)), (1, .int v1), (2, .int v2), (3, .int v3), (4, .int v4), (5, .int v5)] := hl
  have hf : wpO (fX4_leadBy v1 v2 v3 v4 v5 xs xm) (fun v => v = res) := ⟨_, h, rfl⟩
  obtain ⟨H, eH⟩ : ∃ H, H = s.heap := ⟨_, rfl⟩
  obtain ⟨locs, eL⟩ : ∃ locs : List Loc, locs = [] := ⟨_, rfl⟩
  have hH : Hs D A s.heap (wMd cI ad xs xm xi xw xh xl xr xe xn xo xp xu xd) H locs := by rw [eH, eL]; exact hH
  rw [← eL]
  suffices hgo : W p l e rmX4_leadBy s m args below meth c H locs 0 0 Q (F0 m 0 ls []) by rw [eH] at hgo; exact hgo
  clear eH eL
  refine lv_aload_n hx hb dX4_leadBy_0 rfl (lv_at hl 0 rfl) ?_
  refine k_get (v := .ref (ad 1)) F hK hH 0 inX4_leadBy_X4 0 mbX4_leadBy_f9 dX4_leadBy_1 rfl rfl (by decide) rfl ?_
  refine lv_aload_n hx hb dX4_leadBy_4 rfl (lv_at hl 0 rfl) ?_
  refine k_get (v := .ref (ad 2)) F hK hH 0 inX4_leadBy_X4 1 mbX4_leadBy_f13 dX4_leadBy_5 rfl rfl (by decide) rfl ?_
  obtain ⟨x1, hcl, hf⟩ := wp_b hf
  refine k_Sv F hK hH hA hl.1 ⟨Nat.zero_le _, Nat.zero_le _⟩ [1, 2] [.ref (ad 1), .ref (ad 2)] [] (ctX4_copies (ad 1) (ad 2) xs xm hcl) (va_cwS 2 hts gX4_leadBy_X4_copies rfl rfl rfl hdSX4_copies ⟨Nat.le_of_ble_eq_true rfl, Nat.le_of_ble_eq_true rfl⟩) dX4_leadBy_8 rfl rfl (Nat.le_of_ble_eq_true rfl) rfl rfl (by decide) (fun H locs hH => ?_)
  have hH : Hs D A s.heap (wMd cI ad xs x1 xi xw xh xl xr xe xn xo xp xu xd) H locs := hH
  refine lv_aload_n hx hb dX4_leadBy_11 rfl (lv_at hl 0 rfl) ?_
  refine k_get (v := .ref (ad 2)) F hK hH 0 inX4_leadBy_X4 1 mbX4_leadBy_f13 dX4_leadBy_12 rfl rfl (by decide) rfl ?_
  refine lv_iload_n hx hb dX4_leadBy_15 rfl (lv_at hl 1 rfl) ?_
  refine lv_iconst (v := 2) hx hb dX4_leadBy_16 (by decide) ?_
  obtain ⟨x2, hcl, hf⟩ := wp_b hf
  refine k_Si F hK hH hA hl.1 ⟨Nat.zero_le _, Nat.zero_le _⟩ [] [.int v1, .int 2] [.ref (ad 2)] (ctX4_of v1 2 hcl) (va_cwS 2 hts gX4_leadBy_X4_of rfl rfl rfl hdSX4_of ⟨Nat.le_of_ble_eq_true rfl, Nat.le_of_ble_eq_true rfl⟩) dX4_leadBy_17 rfl rfl (Nat.le_of_ble_eq_true rfl) rfl rfl (by decide) (fun H locs hH => ?_)
  have hH : Hs D A s.heap (wMd cI ad xs x1 xi xw xh xl xr xe xn xo xp xu xd) H locs := hH
  refine lv_aload_n hx hb dX4_leadBy_20 rfl (lv_at hl 0 rfl) ?_
  refine k_get (v := .ref (ad 2)) F hK hH 0 inX4_leadBy_X4 1 mbX4_leadBy_f13 dX4_leadBy_21 rfl rfl (by decide) rfl ?_
  refine lv_iload_n hx hb dX4_leadBy_24 rfl (lv_at hl 1 rfl) ?_
  refine lv_iconst (v := 2) hx hb dX4_leadBy_25 (by decide) ?_
  obtain ⟨x3, hcl, hf⟩ := wp_b hf
  refine k_Si F hK hH hA hl.1 ⟨Nat.zero_le _, Nat.zero_le _⟩ [] [.int v1, .int 2] [.ref (ad 2), .int x2, .ref (ad 2)] (ctX4_of v1 2 hcl) (va_cwS 2 hts gX4_leadBy_X4_of rfl rfl rfl hdSX4_of ⟨Nat.le_of_ble_eq_true rfl, Nat.le_of_ble_eq_true rfl⟩) dX4_leadBy_26 rfl rfl (Nat.le_of_ble_eq_true rfl) rfl rfl (by decide) (fun H locs hH => ?_)
  have hH : Hs D A s.heap (wMd cI ad xs x1 xi xw xh xl xr xe xn xo xp xu xd) H locs := hH
  obtain ⟨hi, hf⟩ := wp_n hf
  refine k_iald (f := x1) (n := 53) F hK hH 2 dX4_leadBy_29 hi rfl ?_
  refine lv_iload_n hx hb dX4_leadBy_30 rfl (lv_at hl 2 rfl) ?_
  refine lv_iadd hx hb dX4_leadBy_31 ?_
  refine lv_bipush (v := 16) hx hb dX4_leadBy_32 (by decide) ?_
  refine lv_irem hx hb dX4_leadBy_34 (by decide) ?_
  obtain ⟨hi, hf⟩ := wp_n hf
  refine k_iast (f := x1) (n := 53) F hK hH 2 dX4_leadBy_35 hi rfl (fun H locs hH => ?_)
  have hH : Hs D A s.heap (wMd cI ad xs (upd x1 (Int32.toNatClampNeg x2) (irem ((x1 (Int32.toNatClampNeg x3)) + v2) 16)) xi xw xh xl xr xe xn xo xp xu xd) H locs := hH
  refine lv_aload_n hx hb dX4_leadBy_36 rfl (lv_at hl 0 rfl) ?_
  refine k_get (v := .ref (ad 2)) F hK hH 0 inX4_leadBy_X4 1 mbX4_leadBy_f13 dX4_leadBy_37 rfl rfl (by decide) rfl ?_
  refine lv_iload_n hx hb dX4_leadBy_40 rfl (lv_at hl 3 rfl) ?_
  refine lv_iconst (v := 2) hx hb dX4_leadBy_41 (by decide) ?_
  obtain ⟨x4, hcl, hf⟩ := wp_b hf
  refine k_Si F hK hH hA hl.1 ⟨Nat.zero_le _, Nat.zero_le _⟩ [] [.int v3, .int 2] [.ref (ad 2)] (ctX4_of v3 2 hcl) (va_cwS 2 hts gX4_leadBy_X4_of rfl rfl rfl hdSX4_of ⟨Nat.le_of_ble_eq_true rfl, Nat.le_of_ble_eq_true rfl⟩) dX4_leadBy_42 rfl rfl (Nat.le_of_ble_eq_true rfl) rfl rfl (by decide) (fun H locs hH => ?_)
  have hH : Hs D A s.heap (wMd cI ad xs (upd x1 (Int32.toNatClampNeg x2) (irem ((x1 (Int32.toNatClampNeg x3)) + v2) 16)) xi xw xh xl xr xe xn xo xp xu xd) H locs := hH
  refine lv_aload_n hx hb dX4_leadBy_45 rfl (lv_at hl 0 rfl) ?_
  refine k_get (v := .ref (ad 2)) F hK hH 0 inX4_leadBy_X4 1 mbX4_leadBy_f13 dX4_leadBy_46 rfl rfl (by decide) rfl ?_
  refine lv_iload_n hx hb dX4_leadBy_49 rfl (lv_at hl 3 rfl) ?_
  refine lv_iconst (v := 2) hx hb dX4_leadBy_50 (by decide) ?_
  obtain ⟨x5, hcl, hf⟩ := wp_b hf
  refine k_Si F hK hH hA hl.1 ⟨Nat.zero_le _, Nat.zero_le _⟩ [] [.int v3, .int 2] [.ref (ad 2), .int x4, .ref (ad 2)] (ctX4_of v3 2 hcl) (va_cwS 2 hts gX4_leadBy_X4_of rfl rfl rfl hdSX4_of ⟨Nat.le_of_ble_eq_true rfl, Nat.le_of_ble_eq_true rfl⟩) dX4_leadBy_51 rfl rfl (Nat.le_of_ble_eq_true rfl) rfl rfl (by decide) (fun H locs hH => ?_)
  have hH : Hs D A s.heap (wMd cI ad xs (upd x1 (Int32.toNatClampNeg x2) (irem ((x1 (Int32.toNatClampNeg x3)) + v2) 16)) xi xw xh xl xr xe xn xo xp xu xd) H locs := hH
  obtain ⟨hi, hf⟩ := wp_n hf
  refine k_iald (f := upd x1 (Int32.toNatClampNeg x2) (irem ((x1 (Int32.toNatClampNeg x3)) + v2) 16)) (n := 53) F hK hH 2 dX4_leadBy_54 hi rfl ?_
  refine lv_iload hx hb dX4_leadBy_55 (lv_at hl 4 rfl) ?_
  refine lv_iadd hx hb dX4_leadBy_57 ?_
  refine lv_bipush (v := 16) hx hb dX4_leadBy_58 (by decide) ?_
  refine lv_irem hx hb dX4_leadBy_60 (by decide) ?_
  obtain ⟨hi, hf⟩ := wp_n hf
  refine k_iast (f := upd x1 (Int32.toNatClampNeg x2) (irem ((x1 (Int32.toNatClampNeg x3)) + v2) 16)) (n := 53) F hK hH 2 dX4_leadBy_61 hi rfl (fun H locs hH => ?_)
  have hH : Hs D A s.heap (wMd cI ad xs (upd (upd x1 (Int32.toNatClampNeg x2) (irem ((x1 (Int32.toNatClampNeg x3)) + v2) 16)) (Int32.toNatClampNeg x4) (irem (((upd x1 (Int32.toNatClampNeg x2) (irem ((x1 (Int32.toNatClampNeg x3)) + v2) 16)) (Int32.toNatClampNeg x5)) + v4) 16)) xi xw xh xl xr xe xn xo xp xu xd) H locs := hH
  refine lv_aload_n hx hb dX4_leadBy_62 rfl (lv_at hl 0 rfl) ?_
  refine k_get (v := .ref (ad 2)) F hK hH 0 inX4_leadBy_X4 1 mbX4_leadBy_f13 dX4_leadBy_63 rfl rfl (by decide) rfl ?_
  refine lv_iload hx hb dX4_leadBy_66 (lv_at hl 5 rfl) ?_
  obtain ⟨x6, hcl, hf⟩ := wp_b hf
  refine k_Sv F hK hH hA hl.1 ⟨Nat.zero_le _, Nat.zero_le _⟩ [2] [.ref (ad 2), .int v5] [] (ctX4_hoursOn (ad 2) (upd (upd x1 (Int32.toNatClampNeg x2) (irem ((x1 (Int32.toNatClampNeg x3)) + v2) 16)) (Int32.toNatClampNeg x4) (irem (((upd x1 (Int32.toNatClampNeg x2) (irem ((x1 (Int32.toNatClampNeg x3)) + v2) 16)) (Int32.toNatClampNeg x5)) + v4) 16)) v5 hcl) (va_cwS 2 hts gX4_leadBy_X4_hoursOn rfl rfl rfl hdSX4_hoursOn ⟨Nat.le_of_ble_eq_true rfl, Nat.le_of_ble_eq_true rfl⟩) dX4_leadBy_68 rfl rfl (Nat.le_of_ble_eq_true rfl) rfl rfl (by decide) (fun H locs hH => ?_)
  have hH : Hs D A s.heap (wMd cI ad xs x6 xi xw xh xl xr xe xn xo xp xu xd) H locs := hH
  refine lv_aload_n hx hb dX4_leadBy_71 rfl (lv_at hl 0 rfl) ?_
  refine k_get (v := .ref (ad 2)) F hK hH 0 inX4_leadBy_X4 1 mbX4_leadBy_f13 dX4_leadBy_72 rfl rfl (by decide) rfl ?_
  refine lv_iconst (v := 1) hx hb dX4_leadBy_75 (by decide) ?_
  obtain ⟨x7, hcl, hf⟩ := wp_b hf
  refine k_Si F hK hH hA hl.1 ⟨Nat.zero_le _, Nat.zero_le _⟩ [2] [.ref (ad 2), .int 1] [] (ctX4_branchesIn (ad 2) x6 1 hcl) (va_cwS 2 hts gX4_leadBy_X4_branchesIn rfl rfl rfl hdSX4_branchesIn ⟨Nat.le_of_ble_eq_true rfl, Nat.le_of_ble_eq_true rfl⟩) dX4_leadBy_76 rfl rfl (Nat.le_of_ble_eq_true rfl) rfl rfl (by decide) (fun H locs hH => ?_)
  have hH : Hs D A s.heap (wMd cI ad xs x6 xi xw xh xl xr xe xn xo xp xu xd) H locs := hH
  obtain ⟨x8, hcl, hf⟩ := wp_b hf
  refine k_Si F hK hH hA hl.1 ⟨Nat.zero_le _, Nat.zero_le _⟩ [] [.int x7] [] (ctX4_bits x7 hcl) (va_cwS 1 hts gX4_leadBy_X4_bits rfl rfl rfl hdSX4_bits ⟨Nat.le_of_ble_eq_true rfl, Nat.le_of_ble_eq_true rfl⟩) dX4_leadBy_79 rfl rfl (Nat.le_of_ble_eq_true rfl) rfl rfl (by decide) (fun H locs hH => ?_)
  have hH : Hs D A s.heap (wMd cI ad xs x6 xi xw xh xl xr xe xn xo xp xu xd) H locs := hH
  refine lv_aload_n hx hb dX4_leadBy_82 rfl (lv_at hl 0 rfl) ?_
  refine k_get (v := .ref (ad 2)) F hK hH 0 inX4_leadBy_X4 1 mbX4_leadBy_f13 dX4_leadBy_83 rfl rfl (by decide) rfl ?_
  refine lv_iconst (v := 2) hx hb dX4_leadBy_86 (by decide) ?_
  obtain ⟨x9, hcl, hf⟩ := wp_b hf
  refine k_Si F hK hH hA hl.1 ⟨Nat.zero_le _, Nat.zero_le _⟩ [2] [.ref (ad 2), .int 2] [.int x8] (ctX4_branchesIn (ad 2) x6 2 hcl) (va_cwS 2 hts gX4_leadBy_X4_branchesIn rfl rfl rfl hdSX4_branchesIn ⟨Nat.le_of_ble_eq_true rfl, Nat.le_of_ble_eq_true rfl⟩) dX4_leadBy_87 rfl rfl (Nat.le_of_ble_eq_true rfl) rfl rfl (by decide) (fun H locs hH => ?_)
  have hH : Hs D A s.heap (wMd cI ad xs x6 xi xw xh xl xr xe xn xo xp xu xd) H locs := hH
  obtain ⟨x10, hcl, hf⟩ := wp_b hf
  refine k_Si F hK hH hA hl.1 ⟨Nat.zero_le _, Nat.zero_le _⟩ [] [.int x9] [.int x8] (ctX4_bits x9 hcl) (va_cwS 1 hts gX4_leadBy_X4_bits rfl rfl rfl hdSX4_bits ⟨Nat.le_of_ble_eq_true rfl, Nat.le_of_ble_eq_true rfl⟩) dX4_leadBy_90 rfl rfl (Nat.le_of_ble_eq_true rfl) rfl rfl (by decide) (fun H locs hH => ?_)
  have hH : Hs D A s.heap (wMd cI ad xs x6 xi xw xh xl xr xe xn xo xp xu xd) H locs := hH
  refine lv_isub hx hb dX4_leadBy_93 ?_
  have hrs := wp_s hf
  subst hrs
  exact RET H locs ls 94 dX4_leadBy_94 rfl hH

