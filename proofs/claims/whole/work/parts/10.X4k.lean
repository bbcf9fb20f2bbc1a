def bX4_hide_19 (v1 : Int32) (xs : (Nat → Int32)) : (Int32 × Int32 × (Nat → Int32)) → Option ((Int32 × Int32 × (Nat → Int32)) ⊕ (Int32 × (Nat → Int32))) := fun ((t2, t3, t4) : Int32 × Int32 × (Nat → Int32)) =>
  if ((1 : Int32) <<< ((xs (Int32.toNatClampNeg 0)) &&& 31)) ≤ t3 then
    some (.inr (t2, t4))
  else
    if t2 < 0 then
      Option.bind (fX4_copies xs t4) fun x7 =>
      Option.bind (fX4_branchesIn v1 (upd x7 (Int32.toNatClampNeg 3) ((x7 (Int32.toNatClampNeg 3)) ||| t3))) fun x8 =>
      Option.bind (fX4_bits x8) fun x9 =>
      if x9 = 10 then
        some (.inl (t3, t3 + 1, upd x7 (Int32.toNatClampNeg 3) ((x7 (Int32.toNatClampNeg 3)) ||| t3)))
      else
        some (.inl (t2, t3 + 1, upd x7 (Int32.toNatClampNeg 3) ((x7 (Int32.toNatClampNeg 3)) ||| t3)))
    else
      Option.bind (fX4_bits t3) fun x10 =>
      Option.bind (fX4_bits t2) fun x11 =>
      if x10 < x11 then
        Option.bind (fX4_copies xs t4) fun x12 =>
        Option.bind (fX4_branchesIn v1 (upd x12 (Int32.toNatClampNeg 3) ((x12 (Int32.toNatClampNeg 3)) ||| t3))) fun x13 =>
        Option.bind (fX4_bits x13) fun x14 =>
        if x14 = 10 then
          some (.inl (t3, t3 + 1, upd x12 (Int32.toNatClampNeg 3) ((x12 (Int32.toNatClampNeg 3)) ||| t3)))
        else
          some (.inl (t2, t3 + 1, upd x12 (Int32.toNatClampNeg 3) ((x12 (Int32.toNatClampNeg 3)) ||| t3)))
      else
        some (.inl (t2, t3 + 1, t4))

def fX4_hide (v1 : Int32) (xs : (Nat → Int32)) (xm : (Nat → Int32)) (xe : (Nat → Int32)) : Option (Int32 × (Nat → Int32) × (Nat → Int32)) :=
  Option.bind (fX4_isVerdict v1) fun x1 =>
  if x1 = 0 then
    Option.bind (fX4_no (-2) xe) fun x15 =>
    some (x15.1, xm, x15.2)
  else
    Option.bind (lp (bX4_hide_19 v1 xs) fu ((-9), 0, xm)) fun ((t5, t6) : Int32 × (Nat → Int32)) =>
    some (t5, t6, xe)

def rmX4_hide : Room := { frames := 6, cells := 0, slots := 0, locals := 136 }
theorem mbX4_hide_f9 : Cond.fieldLink RX4 9 (TX4 0).1 (TX4 0).2.1 (TX4 0).2.2.1 ∈ wsX4_hide := by decide +kernel
theorem inX4_hide_X4 : ∀ w ∈ wsX40, w ∈ wsX4_hide := by decide +kernel
theorem mbX4_hide_f13 : Cond.fieldLink RX4 13 (TX4 1).1 (TX4 1).2.1 (TX4 1).2.2.1 ∈ wsX4_hide := by decide +kernel
theorem hdVX4_hide : yX4_hide.cls = RX4 ∧ yX4_hide.cls ≠ "java/lang/invoke/MethodHandle" ∧ yX4_hide.cls ≠ "java/lang/invoke/VarHandle" ∧ (parseMethodDescriptor yX4_hide.desc).map (fun d => d.parameters.length) = some 1 := by decide +kernel
set_option maxHeartbeats 4000000 in
set_option maxRecDepth 100000 in
theorem ctX4_hide {l : Launch} {D : va_G} {cI cJ cQ : ClassId} (ad : Nat → Nat) (xs : (Nat → Int32)) (xm : (Nat → Int32)) (xi : (Nat → Int32)) (xw : (Nat → Int32)) (xh : Int32) (xl : (Nat → Int32)) (xr : (Nat → Int32)) (xe : (Nat → Int32)) (xn : Int32) (xo : Int32) (xp : Int32) (xu : (Nat → Int32)) (xd : Int32) (v1 : Int32) {res : Int32 × (Nat → Int32) × (Nat → Int32)} (h : fX4_hide v1 xs xm xe = some res) : CtI l D cI cJ cQ yX4_hide wsX4_hide rmX4_hide [.ref (ad 0), .int v1] (wMd cI ad xs xm xi xw xh xl xr xe xn xo xp xu xd) res.1 (wMd cI ad xs res.2.1 xi xw xh xl xr res.2.2 xn xo xp xu xd) := by
  refine ctI_of .int (cc := cX4_hide) (maxL := 4) (by decide) rfl (Nat.le_of_ble_eq_true rfl) ?_
  intro p e s m args below meth c A Q ls F hK hA RET hH hl
  obtain ⟨hx, hb, hml, hown, hts⟩ := id F
  have hl : lv_has ls 4 [(0, .ref (ad 0)), (1, .int v1)] := hl
  have hf : wpO (fX4_hide v1 xs xm xe) (fun v => v = res) := ⟨_, h, rfl⟩
  obtain ⟨H, eH⟩ : ∃ H, H = s.heap := ⟨_, rfl⟩
  obtain ⟨locs, eL⟩ : ∃ locs : List Loc, locs = [] := ⟨_, rfl⟩
  have hH : Hs D A s.heap (wMd cI ad xs xm xi xw xh xl xr xe xn xo xp xu xd) H locs := by rw [eH, eL]; exact hH
  rw [← eL]
  suffices hgo : W p l e rmX4_hide s m args below meth c H locs 0 0 Q (F0 m 0 ls []) by rw [eH] at hgo; exact hgo
  clear eH eL
  refine lv_iload_n hx hb dX4_hide_0 rfl (lv_at hl 1 rfl) ?_
  obtain ⟨x1, hcl, hf⟩ := wp_b hf
  refine k_Si F hK hH hA hl.1 ⟨Nat.zero_le _, Nat.zero_le _⟩ [] [.int v1] [] (ctX4_isVerdict v1 hcl) (va_cwS 1 hts gX4_hide_X4_isVerdict rfl rfl rfl hdSX4_isVerdict ⟨Nat.le_of_ble_eq_true rfl, Nat.le_of_ble_eq_true rfl⟩) dX4_hide_1 rfl rfl (Nat.le_of_ble_eq_true rfl) rfl rfl (by decide) (fun H locs hH => ?_)
  have hH : Hs D A s.heap (wMd cI ad xs xm xi xw xh xl xr xe xn xo xp xu xd) H locs := hH
  refine lv_if_ne (tgt := 14) hx hb dX4_hide_4 (by decide) (fun hc => ?_) (fun hc => ?_)
  · have hf := wp_f hc hf
    refine lv_bipush (v := (-9)) hx hb dX4_hide_14 (by decide) ?_
    refine lv_istore_n (lv' := [(2, .int (-9)), (0, .ref (ad 0)), (1, .int v1)]) hx hb dX4_hide_16 rfl hl (by decide) rfl (fun ls hl => ?_)
    refine lv_iconst (v := 0) hx hb dX4_hide_17 (by decide) ?_
    refine lv_istore_n (lv' := [(3, .int 0), (2, .int (-9)), (0, .ref (ad 0)), (1, .int v1)]) hx hb dX4_hide_18 rfl hl (by decide) rfl (fun ls hl => ?_)
    have LP : ∀ (Φ : (Int32 × (Nat → Int32)) → Prop), (∀ (t5 : Int32) (t6 : (Nat → Int32)) (H : Heap) (locs : List Loc) (ls : Array Slot), Φ ((t5, t6)) → Hs D A s.heap (wMd cI ad xs t6 xi xw xh xl xr xe xn xo xp xu xd) H locs → lv_has ls 4 [(2, .int t5)] → W p l e rmX4_hide s m args below meth c H locs 0 0 Q (F0 m 94 ls [])) → ∀ (n : Nat) (t2 : Int32) (t3 : Int32) (t4 : (Nat → Int32)) (H : Heap) (locs : List Loc) (ls : Array Slot), wpO (lp (bX4_hide_19 v1 xs) n (t2, t3, t4)) Φ → Hs D A s.heap (wMd cI ad xs t4 xi xw xh xl xr xe xn xo xp xu xd) H locs → lv_has ls 4 [(0, .ref (ad 0)), (1, .int v1), (2, .int t2), (3, .int t3)] → W p l e rmX4_hide s m args below meth c H locs 0 0 Q (F0 m 19 ls []) := by
      intro Φ EX n
      induction n with
      | zero =>
        intro t2 t3 t4 H locs ls hf hH hl
        exact (wp_l0 hf).elim
      | succ n ih =>
        intro t2 t3 t4 H locs ls hf hH hl
        have hf := wp_l hf
        refine lv_iload_n hx hb dX4_hide_19 rfl (lv_at hl 3 rfl) ?_
        refine lv_iconst (v := 1) hx hb dX4_hide_20 (by decide) ?_
        refine lv_aload_n hx hb dX4_hide_21 rfl (lv_at hl 0 rfl) ?_
        refine k_get (v := .ref (ad 1)) F hK hH 0 inX4_hide_X4 0 mbX4_hide_f9 dX4_hide_22 rfl rfl (by decide) rfl ?_
        refine lv_iconst (v := 0) hx hb dX4_hide_25 (by decide) ?_
        refine k_iald (f := xs) (n := 53) F hK hH 1 dX4_hide_26 (by decide) rfl ?_
        refine lv_ishl hx hb dX4_hide_27 ?_
        refine lv_icmp_ge (tgt := 94) hx hb dX4_hide_28 (by decide) (fun hc => ?_) (fun hc => ?_)
        · have hf := wp_t hc hf
          have hw := wp_out hf
          exact EX _ _ _ _ _ hw hH (lv_sub hl [2] rfl)
        · have hf := wp_f hc hf
          refine lv_iload_n hx hb dX4_hide_31 rfl (lv_at hl 2 rfl) ?_
          refine lv_if_lt (tgt := 49) hx hb dX4_hide_32 (by decide) (fun hc => ?_) (fun hc => ?_)
          · have hf := wp_t hc hf
            refine lv_aload_n hx hb dX4_hide_49 rfl (lv_at hl 0 rfl) ?_
            refine k_get (v := .ref (ad 1)) F hK hH 0 inX4_hide_X4 0 mbX4_hide_f9 dX4_hide_50 rfl rfl (by decide) rfl ?_
            refine lv_aload_n hx hb dX4_hide_53 rfl (lv_at hl 0 rfl) ?_
            refine k_get (v := .ref (ad 2)) F hK hH 0 inX4_hide_X4 1 mbX4_hide_f13 dX4_hide_54 rfl rfl (by decide) rfl ?_
            obtain ⟨x7, hcl, hf⟩ := wp_b hf
            refine k_Sv F hK hH hA hl.1 ⟨Nat.zero_le _, Nat.zero_le _⟩ [1, 2] [.ref (ad 1), .ref (ad 2)] [] (ctX4_copies (ad 1) (ad 2) xs t4 hcl) (va_cwS 2 hts gX4_hide_X4_copies rfl rfl rfl hdSX4_copies ⟨Nat.le_of_ble_eq_true rfl, Nat.le_of_ble_eq_true rfl⟩) dX4_hide_57 rfl rfl (Nat.le_of_ble_eq_true rfl) rfl rfl (by decide) (fun H locs hH => ?_)
            have hH : Hs D A s.heap (wMd cI ad xs x7 xi xw xh xl xr xe xn xo xp xu xd) H locs := hH
            refine lv_aload_n hx hb dX4_hide_60 rfl (lv_at hl 0 rfl) ?_
            refine k_get (v := .ref (ad 2)) F hK hH 0 inX4_hide_X4 1 mbX4_hide_f13 dX4_hide_61 rfl rfl (by decide) rfl ?_
            refine lv_iconst (v := 3) hx hb dX4_hide_64 (by decide) ?_
            refine lv_dup2_11 hx hb dX4_hide_65 rfl rfl ?_
            refine k_iald (f := x7) (n := 53) F hK hH 2 dX4_hide_66 (by decide) rfl ?_
            refine lv_iload_n hx hb dX4_hide_67 rfl (lv_at hl 3 rfl) ?_
            refine lv_ior hx hb dX4_hide_68 ?_
            refine k_iast (f := x7) (n := 53) F hK hH 2 dX4_hide_69 (by decide) rfl (fun H locs hH => ?_)
            have hH : Hs D A s.heap (wMd cI ad xs (upd x7 (Int32.toNatClampNeg 3) ((x7 (Int32.toNatClampNeg 3)) ||| t3)) xi xw xh xl xr xe xn xo xp xu xd) H locs := hH
            refine lv_aload_n hx hb dX4_hide_70 rfl (lv_at hl 0 rfl) ?_
            refine k_get (v := .ref (ad 2)) F hK hH 0 inX4_hide_X4 1 mbX4_hide_f13 dX4_hide_71 rfl rfl (by decide) rfl ?_
            refine lv_iload_n hx hb dX4_hide_74 rfl (lv_at hl 1 rfl) ?_
            obtain ⟨x8, hcl, hf⟩ := wp_b hf
            refine k_Si F hK hH hA hl.1 ⟨Nat.zero_le _, Nat.zero_le _⟩ [2] [.ref (ad 2), .int v1] [] (ctX4_branchesIn (ad 2) (upd x7 (Int32.toNatClampNeg 3) ((x7 (Int32.toNatClampNeg 3)) ||| t3)) v1 hcl) (va_cwS 2 hts gX4_hide_X4_branchesIn rfl rfl rfl hdSX4_branchesIn ⟨Nat.le_of_ble_eq_true rfl, Nat.le_of_ble_eq_true rfl⟩) dX4_hide_75 rfl rfl (Nat.le_of_ble_eq_true rfl) rfl rfl (by decide) (fun H locs hH => ?_)
            have hH : Hs D A s.heap (wMd cI ad xs (upd x7 (Int32.toNatClampNeg 3) ((x7 (Int32.toNatClampNeg 3)) ||| t3)) xi xw xh xl xr xe xn xo xp xu xd) H locs := hH
            obtain ⟨x9, hcl, hf⟩ := wp_b hf
            refine k_Si F hK hH hA hl.1 ⟨Nat.zero_le _, Nat.zero_le _⟩ [] [.int x8] [] (ctX4_bits x8 hcl) (va_cwS 1 hts gX4_hide_X4_bits rfl rfl rfl hdSX4_bits ⟨Nat.le_of_ble_eq_true rfl, Nat.le_of_ble_eq_true rfl⟩) dX4_hide_78 rfl rfl (Nat.le_of_ble_eq_true rfl) rfl rfl (by decide) (fun H locs hH => ?_)
            have hH : Hs D A s.heap (wMd cI ad xs (upd x7 (Int32.toNatClampNeg 3) ((x7 (Int32.toNatClampNeg 3)) ||| t3)) xi xw xh xl xr xe xn xo xp xu xd) H locs := hH
            refine lv_bipush (v := 10) hx hb dX4_hide_81 (by decide) ?_
            refine lv_icmp_ne (tgt := 88) hx hb dX4_hide_83 (by decide) (fun hc => ?_) (fun hc => ?_)
            · have hf := wp_f hc hf
              refine lv_iinc (v := t3 + 1) (lv' := [(3, .int (t3 + 1)), (0, .ref (ad 0)), (1, .int v1), (2, .int t2)]) hx hb dX4_hide_88 hl (k := 3) rfl rfl (by decide) rfl (fun ls hl => ?_)
              refine lv_goto (tgt := 19) hx hb dX4_hide_91 (by decide) ?_
              have hw := wp_in hf
              exact ih _ _ _ _ _ _ hw hH (lv_sub hl [1, 2, 3, 0] rfl)
            · have hf := wp_t hc hf
              refine lv_iload_n hx hb dX4_hide_86 rfl (lv_at hl 3 rfl) ?_
              refine lv_istore_n (lv' := [(2, .int t3), (0, .ref (ad 0)), (1, .int v1), (3, .int t3)]) hx hb dX4_hide_87 rfl hl (by decide) rfl (fun ls hl => ?_)
              refine lv_iinc (v := t3 + 1) (lv' := [(3, .int (t3 + 1)), (2, .int t3), (0, .ref (ad 0)), (1, .int v1)]) hx hb dX4_hide_88 hl (k := 3) rfl rfl (by decide) rfl (fun ls hl => ?_)
              refine lv_goto (tgt := 19) hx hb dX4_hide_91 (by decide) ?_
              have hw := wp_in hf
              exact ih _ _ _ _ _ _ hw hH (lv_sub hl [2, 3, 1, 0] rfl)
          · have hf := wp_f hc hf
            refine lv_iload_n hx hb dX4_hide_35 rfl (lv_at hl 3 rfl) ?_
            obtain ⟨x10, hcl, hf⟩ := wp_b hf
            refine k_Si F hK hH hA hl.1 ⟨Nat.zero_le _, Nat.zero_le _⟩ [] [.int t3] [] (ctX4_bits t3 hcl) (va_cwS 1 hts gX4_hide_X4_bits rfl rfl rfl hdSX4_bits ⟨Nat.le_of_ble_eq_true rfl, Nat.le_of_ble_eq_true rfl⟩) dX4_hide_36 rfl rfl (Nat.le_of_ble_eq_true rfl) rfl rfl (by decide) (fun H locs hH => ?_)
            have hH : Hs D A s.heap (wMd cI ad xs t4 xi xw xh xl xr xe xn xo xp xu xd) H locs := hH
            refine lv_iload_n hx hb dX4_hide_39 rfl (lv_at hl 2 rfl) ?_
            obtain ⟨x11, hcl, hf⟩ := wp_b hf
            refine k_Si F hK hH hA hl.1 ⟨Nat.zero_le _, Nat.zero_le _⟩ [] [.int t2] [.int x10] (ctX4_bits t2 hcl) (va_cwS 1 hts gX4_hide_X4_bits rfl rfl rfl hdSX4_bits ⟨Nat.le_of_ble_eq_true rfl, Nat.le_of_ble_eq_true rfl⟩) dX4_hide_40 rfl rfl (Nat.le_of_ble_eq_true rfl) rfl rfl (by decide) (fun H locs hH => ?_)
            have hH : Hs D A s.heap (wMd cI ad xs t4 xi xw xh xl xr xe xn xo xp xu xd) H locs := hH
            refine lv_icmp_lt (tgt := 49) hx hb dX4_hide_43 (by decide) (fun hc => ?_) (fun hc => ?_)
            · have hf := wp_t hc hf
              refine lv_aload_n hx hb dX4_hide_49 rfl (lv_at hl 0 rfl) ?_
              refine k_get (v := .ref (ad 1)) F hK hH 0 inX4_hide_X4 0 mbX4_hide_f9 dX4_hide_50 rfl rfl (by decide) rfl ?_
              refine lv_aload_n hx hb dX4_hide_53 rfl (lv_at hl 0 rfl) ?_
              refine k_get (v := .ref (ad 2)) F hK hH 0 inX4_hide_X4 1 mbX4_hide_f13 dX4_hide_54 rfl rfl (by decide) rfl ?_
              obtain ⟨x12, hcl, hf⟩ := wp_b hf
              refine k_Sv F hK hH hA hl.1 ⟨Nat.zero_le _, Nat.zero_le _⟩ [1, 2] [.ref (ad 1), .ref (ad 2)] [] (ctX4_copies (ad 1) (ad 2) xs t4 hcl) (va_cwS 2 hts gX4_hide_X4_copies rfl rfl rfl hdSX4_copies ⟨Nat.le_of_ble_eq_true rfl, Nat.le_of_ble_eq_true rfl⟩) dX4_hide_57 rfl rfl (Nat.le_of_ble_eq_true rfl) rfl rfl (by decide) (fun H locs hH => ?_)
              have hH : Hs D A s.heap (wMd cI ad xs x12 xi xw xh xl xr xe xn xo xp xu xd) H locs := hH
              refine lv_aload_n hx hb dX4_hide_60 rfl (lv_at hl 0 rfl) ?_
              refine k_get (v := .ref (ad 2)) F hK hH 0 inX4_hide_X4 1 mbX4_hide_f13 dX4_hide_61 rfl rfl (by decide) rfl ?_
              refine lv_iconst (v := 3) hx hb dX4_hide_64 (by decide) ?_
              refine lv_dup2_11 hx hb dX4_hide_65 rfl rfl ?_
              refine k_iald (f := x12) (n := 53) F hK hH 2 dX4_hide_66 (by decide) rfl ?_
              refine lv_iload_n hx hb dX4_hide_67 rfl (lv_at hl 3 rfl) ?_
              refine lv_ior hx hb dX4_hide_68 ?_
              refine k_iast (f := x12) (n := 53) F hK hH 2 dX4_hide_69 (by decide) rfl (fun H locs hH => ?_)
              have hH : Hs D A s.heap (wMd cI ad xs (upd x12 (Int32.toNatClampNeg 3) ((x12 (Int32.toNatClampNeg 3)) ||| t3)) xi xw xh xl xr xe xn xo xp xu xd) H locs := hH
              refine lv_aload_n hx hb dX4_hide_70 rfl (lv_at hl 0 rfl) ?_
              refine k_get (v := .ref (ad 2)) F hK hH 0 inX4_hide_X4 1 mbX4_hide_f13 dX4_hide_71 rfl rfl (by decide) rfl ?_
              refine lv_iload_n hx hb dX4_hide_74 rfl (lv_at hl 1 rfl) ?_
              obtain ⟨x13, hcl, hf⟩ := wp_b hf
              refine k_Si F hK hH hA hl.1 ⟨Nat.zero_le _, Nat.zero_le _⟩ [2] [.ref (ad 2), .int v1] [] (ctX4_branchesIn (ad 2) (upd x12 (Int32.toNatClampNeg 3) ((x12 (Int32.toNatClampNeg 3)) ||| t3)) v1 hcl) (va_cwS 2 hts gX4_hide_X4_branchesIn rfl rfl rfl hdSX4_branchesIn ⟨Nat.le_of_ble_eq_true rfl, Nat.le_of_ble_eq_true rfl⟩) dX4_hide_75 rfl rfl (Nat.le_of_ble_eq_true rfl) rfl rfl (by decide) (fun H locs hH => ?_)
              have hH : Hs D A s.heap (wMd cI ad xs (upd x12 (Int32.toNatClampNeg 3) ((x12 (Int32.toNatClampNeg 3)) ||| t3)) xi xw xh xl xr xe xn xo xp xu xd) H locs := hH
              obtain ⟨x14, hcl, hf⟩ := wp_b hf
              refine k_Si F hK hH hA hl.1 ⟨Nat.zero_le _, Nat.zero_le _⟩ [] [.int x13] [] (ctX4_bits x13 hcl) (va_cwS 1 hts gX4_hide_X4_bits rfl rfl rfl hdSX4_bits ⟨Nat.le_of_ble_eq_true rfl, Nat.le_of_ble_eq_true rfl⟩) dX4_hide_78 rfl rfl (Nat.le_of_ble_eq_true rfl) rfl rfl (by decide) (fun H locs hH => ?_)
              have hH : Hs D A s.heap (wMd cI ad xs (upd x12 (Int32.toNatClampNeg 3) ((x12 (Int32.toNatClampNeg 3)) ||| t3)) xi xw xh xl xr xe xn xo xp xu xd) H locs := hH
              refine lv_bipush (v := 10) hx hb dX4_hide_81 (by decide) ?_
              refine lv_icmp_ne (tgt := 88) hx hb dX4_hide_83 (by decide) (fun hc => ?_) (fun hc => ?_)
              · have hf := wp_f hc hf
                refine lv_iinc (v := t3 + 1) (lv' := [(3, .int (t3 + 1)), (0, .ref (ad 0)), (1, .int v1), (2, .int t2)]) hx hb dX4_hide_88 hl (k := 3) rfl rfl (by decide) rfl (fun ls hl => ?_)
                refine lv_goto (tgt := 19) hx hb dX4_hide_91 (by decide) ?_
                have hw := wp_in hf
                exact ih _ _ _ _ _ _ hw hH (lv_sub hl [1, 2, 3, 0] rfl)
              · have hf := wp_t hc hf
                refine lv_iload_n hx hb dX4_hide_86 rfl (lv_at hl 3 rfl) ?_
                refine lv_istore_n (lv' := [(2, .int t3), (0, .ref (ad 0)), (1, .int v1), (3, .int t3)]) hx hb dX4_hide_87 rfl hl (by decide) rfl (fun ls hl => ?_)
                refine lv_iinc (v := t3 + 1) (lv' := [(3, .int (t3 + 1)), (2, .int t3), (0, .ref (ad 0)), (1, .int v1)]) hx hb dX4_hide_88 hl (k := 3) rfl rfl (by decide) rfl (fun ls hl => ?_)
                refine lv_goto (tgt := 19) hx hb dX4_hide_91 (by decide) ?_
                have hw := wp_in hf
                exact ih _ _ _ _ _ _ hw hH (lv_sub hl [2, 3, 1, 0] rfl)
            · have hf := wp_f hc hf
              refine lv_goto (tgt := 88) hx hb dX4_hide_46 (by decide) ?_
              refine lv_iinc (v := t3 + 1) (lv' := [(3, .int (t3 + 1)), (0, .ref (ad 0)), (1, .int v1), (2, .int t2)]) hx hb dX4_hide_88 hl (k := 3) rfl rfl (by decide) rfl (fun ls hl => ?_)
              refine lv_goto (tgt := 19) hx hb dX4_hide_91 (by decide) ?_
              have hw := wp_in hf
              exact ih _ _ _ _ _ _ hw hH (lv_sub hl [1, 2, 3, 0] rfl)
    refine LP _ (fun t5 t6 H locs ls hf hH hl => ?_) fu _ _ _ _ _ _ (wp_bb hf) hH (lv_sub hl [2, 3, 1, 0] rfl)
    refine lv_iload_n hx hb dX4_hide_94 rfl (lv_at hl 0 rfl) ?_
    have hrs := wp_s hf
    subst hrs
    exact RET H locs ls 95 dX4_hide_95 rfl hH
  · have hf := wp_t hc hf
    refine lv_aload_n hx hb dX4_hide_7 rfl (lv_at hl 0 rfl) ?_
    refine lv_bipush (v := (-2)) hx hb dX4_hide_8 (by decide) ?_
    obtain ⟨x15, hcl, hf⟩ := wp_b hf
    refine k_Vi0 F hK hH hA hl.1 ⟨Nat.zero_le _, Nat.zero_le _⟩ [.int (-2)] [] (ctX4_no ad xs xm xi xw xh xl xr xe xn xo xp xu xd (-2) hcl) (cwV 1 hts gX4_hide_X4_no rfl rfl rfl hdVX4_no ⟨Nat.le_of_ble_eq_true rfl, Nat.le_of_ble_eq_true rfl⟩) dX4_hide_10 0 rfl rfl rfl rfl rfl (Nat.le_of_ble_eq_true rfl) rfl (fun H locs hH => ?_)
    have hH : Hs D A s.heap (wMd cI ad xs xm xi xw xh xl xr x15.2 xn xo xp xu xd) H locs := hH
    refine W.eq (g2 := F0 m 13 ls [.int x15.1]) rfl ?_
    have hrs := wp_s hf
    subst hrs
    exact RET H locs ls 13 dX4_hide_13 rfl hH

def bX4_eyesBest_54 (v1 : Int32) (v2 : Int32) (v3 : Int32) (xs : (Nat → Int32)) : (Int32 × Int32 × (Nat → Int32)) → Option ((Int32 × Int32 × (Nat → Int32)) ⊕ (Int32 × (Nat → Int32))) := fun ((t5, t6, t7) : Int32 × Int32 × (Nat → Int32)) =>
  if (16 : Int32) < t6 then
    some (.inr (t5, t7))
  else
    Option.bind (fX4_copies xs t7) fun x10 =>
    Option.bind (fX4_verdictIn v1 (upd x10 (Int32.toNatClampNeg 2) t6)) fun x11 =>
    if x11 = v2 then
      if t5 < 0 then
        some (.inl (t6, t6 + 1, upd x10 (Int32.toNatClampNeg 2) t6))
      else
        if v3 = 1 then
          some (.inl (t6, t6 + 1, upd x10 (Int32.toNatClampNeg 2) t6))
        else
          some (.inl (t5, t6 + 1, upd x10 (Int32.toNatClampNeg 2) t6))
    else
      some (.inl (t5, t6 + 1, upd x10 (Int32.toNatClampNeg 2) t6))

def fX4_eyesBest (v1 : Int32) (v2 : Int32) (v3 : Int32) (xs : (Nat → Int32)) (xm : (Nat → Int32)) (xe : (Nat → Int32)) : Option (Int32 × (Nat → Int32) × (Nat → Int32)) :=
  Option.bind (fX4_isBranch v1) fun x1 =>
  Option.bind (if x1 = 0 then
      some (-1)
    else
      Option.bind (fX4_isVerdict v2) fun x3 =>
      if x3 = 0 then
        some (-2)
      else
        Option.bind (fX4_isIn v3 0 1) fun x4 =>
        if x4 = 0 then
          some (-2)
        else
          some 0) fun (t2 : Int32) =>
  if t2 = 0 then
    Option.bind (lp (bX4_eyesBest_54 v1 v2 v3 xs) fu ((-9), 0, xm)) fun ((t8, t9) : Int32 × (Nat → Int32)) =>
    some (t8, t9, xe)
  else
    Option.bind (fX4_no t2 xe) fun x12 =>
    some (x12.1, xm, x12.2)

def rmX4_eyesBest : Room := { frames := 5, cells := 0, slots := 0, locals := 113 }
theorem mbX4_eyesBest_f9 : Cond.fieldLink RX4 9 (TX4 0).1 (TX4 0).2.1 (TX4 0).2.2.1 ∈ wsX4_eyesBest := by decide +kernel
theorem inX4_eyesBest_X4 : ∀ w ∈ wsX40, w ∈ wsX4_eyesBest := by decide +kernel
theorem mbX4_eyesBest_f13 : Cond.fieldLink RX4 13 (TX4 1).1 (TX4 1).2.1 (TX4 1).2.2.1 ∈ wsX4_eyesBest := by decide +kernel
theorem hdVX4_eyesBest : yX4_eyesBest.cls = RX4 ∧ yX4_eyesBest.cls ≠ "java/lang/invoke/MethodHandle" ∧ yX4_eyesBest.cls ≠ "java/lang/invoke/VarHandle" ∧ (parseMethodDescriptor yX4_eyesBest.desc).map (fun d => d.parameters.length) = some 3 := by decide +kernel
set_option maxHeartbeats 4000000 in
set_option maxRecDepth 100000 in
theorem ctX4_eyesBest {l : Launch} {D : va_G} {cI cJ cQ : ClassId} (ad : Nat → Nat) (xs : (Nat → Int32)) (xm : (Nat → Int32)) (xi : (Nat → Int32)) (xw : (Nat → Int32)) (xh : Int32) (xl : (Nat → Int32)) (xr : (Nat → Int32)) (xe : (Nat → Int32)) (xn : Int32) (xo : Int32) (xp : Int32) (xu : (Nat → Int32)) (xd : Int32) (v1 : Int32) (v2 : Int32) (v3 : Int32) {res : Int32 × (Nat → Int32) × (Nat → Int32)} (h : fX4_eyesBest v1 v2 v3 xs xm xe = some res) : CtI l D cI cJ cQ yX4_eyesBest wsX4_eyesBest rmX4_eyesBest [.ref (ad 0), .int v1, .int v2, .int v3] (wMd cI ad xs xm xi xw xh xl xr xe xn xo xp xu xd) res.1 (wMd cI ad xs res.2.1 xi xw xh xl xr res.2.2 xn xo xp xu xd) := by
  refine ctI_of .int (cc := cX4_eyesBest) (maxL := 7) (by decide) rfl (Nat.le_of_ble_eq_true rfl) ?_
  intro p e s m args below meth c A Q ls F hK hA RET hH hl
  obtain ⟨hx, hb, hml, hown, hts⟩ := id F
  have hl : lv_has ls 7 [(0, .ref (ad 0)), (1, .int v1), (2, .int v2), (3, .int v3)] := hl
  have hf : wpO (fX4_eyesBest v1 v2 v3 xs xm xe) (fun v => v = res) := ⟨_, h, rfl⟩
  obtain ⟨H, eH⟩ : ∃ H, H = s.heap := ⟨_, rfl⟩
  obtain ⟨locs, eL⟩ : ∃ locs : List Loc, locs = [] := ⟨_, rfl⟩
  have hH : Hs D A s.heap (wMd cI ad xs xm xi xw xh xl xr xe xn xo xp xu xd) H locs := by rw [eH, eL]; exact hH
  rw [← eL]
  suffices hgo : W p l e rmX4_eyesBest s m args below meth c H locs 0 0 Q (F0 m 0 ls []) by rw [eH] at hgo; exact hgo
  clear eH eL
  refine lv_iload_n hx hb dX4_eyesBest_0 rfl (lv_at hl 1 rfl) ?_
  obtain ⟨x1, hcl, hf⟩ := wp_b hf
  refine k_Si F hK hH hA hl.1 ⟨Nat.zero_le _, Nat.zero_le _⟩ [] [.int v1] [] (ctX4_isBranch v1 hcl) (va_cwS 1 hts gX4_eyesBest_X4_isBranch rfl rfl rfl hdSX4_isBranch ⟨Nat.le_of_ble_eq_true rfl, Nat.le_of_ble_eq_true rfl⟩) dX4_eyesBest_1 rfl rfl (Nat.le_of_ble_eq_true rfl) rfl rfl (by decide) (fun H locs hH => ?_)
  have hH : Hs D A s.heap (wMd cI ad xs xm xi xw xh xl xr xe xn xo xp xu xd) H locs := hH
  refine join_ (α := Int32) (fun Φ => ∀ (t2 : Int32) (H : Heap) (locs : List Loc) (ls : Array Slot), Φ t2 → Hs D A s.heap (wMd cI ad xs xm xi xw xh xl xr xe xn xo xp xu xd) H locs → lv_has ls 7 [(0, .ref (ad 0)), (1, .int v1), (2, .int v2), (3, .int v3)] → W p l e rmX4_eyesBest s m args below meth c H locs 0 0 Q (F0 m 33 ls [.int t2])) (wp_bb hf) ?_ ?_
  · intro t2 H locs ls hf hH hl
    refine lv_istore (lv' := [(4, .int t2), (0, .ref (ad 0)), (1, .int v1), (2, .int v2), (3, .int v3)]) hx hb dX4_eyesBest_33 hl (by decide) rfl (fun ls hl => ?_)
    refine lv_iload hx hb dX4_eyesBest_35 (lv_at hl 0 rfl) ?_
    refine lv_if_eq (tgt := 47) hx hb dX4_eyesBest_37 (by decide) (fun hc => ?_) (fun hc => ?_)
    · have hf := wp_t hc hf
      refine lv_bipush (v := (-9)) hx hb dX4_eyesBest_47 (by decide) ?_
      refine lv_istore (lv' := [(5, .int (-9)), (4, .int t2), (0, .ref (ad 0)), (1, .int v1), (2, .int v2), (3, .int v3)]) hx hb dX4_eyesBest_49 hl (by decide) rfl (fun ls hl => ?_)
      refine lv_iconst (v := 0) hx hb dX4_eyesBest_51 (by decide) ?_
      refine lv_istore (lv' := [(6, .int 0), (5, .int (-9)), (4, .int t2), (0, .ref (ad 0)), (1, .int v1), (2, .int v2), (3, .int v3)]) hx hb dX4_eyesBest_52 hl (by decide) rfl (fun ls hl => ?_)
      have LP : ∀ (Φ : (Int32 × (Nat → Int32)) → Prop), (∀ (t8 : Int32) (t9 : (Nat → Int32)) (H : Heap) (locs : List Loc) (ls : Array Slot), Φ ((t8, t9)) → Hs D A s.heap (wMd cI ad xs t9 xi xw xh xl xr xe xn xo xp xu xd) H locs → lv_has ls 7 [(5, .int t8)] → W p l e rmX4_eyesBest s m args below meth c H locs 0 0 Q (F0 m 112 ls [])) → ∀ (n : Nat) (t5 : Int32) (t6 : Int32) (t7 : (Nat → Int32)) (H : Heap) (locs : List Loc) (ls : Array Slot), wpO (lp (bX4_eyesBest_54 v1 v2 v3 xs) n (t5, t6, t7)) Φ → Hs D A s.heap (wMd cI ad xs t7 xi xw xh xl xr xe xn xo xp xu xd) H locs → lv_has ls 7 [(0, .ref (ad 0)), (1, .int v1), (2, .int v2), (3, .int v3), (5, .int t5), (6, .int t6)] → W p l e rmX4_eyesBest s m args below meth c H locs 0 0 Q (F0 m 54 ls []) := by
        intro Φ EX n
        induction n with
        | zero =>
          intro t5 t6 t7 H locs ls hf hH hl
          exact (wp_l0 hf).elim
        | succ n ih =>
          intro t5 t6 t7 H locs ls hf hH hl
          have hf := wp_l hf
          refine lv_iload hx hb dX4_eyesBest_54 (lv_at hl 5 rfl) ?_
          refine lv_bipush (v := 16) hx hb dX4_eyesBest_56 (by decide) ?_
          refine lv_icmp_gt (tgt := 112) hx hb dX4_eyesBest_58 (by decide) (fun hc => ?_) (fun hc => ?_)
          · have hf := wp_t hc hf
            have hw := wp_out hf
            exact EX _ _ _ _ _ hw hH (lv_sub hl [4] rfl)
          · have hf := wp_f hc hf
            refine lv_aload_n hx hb dX4_eyesBest_61 rfl (lv_at hl 0 rfl) ?_
            refine k_get (v := .ref (ad 1)) F hK hH 0 inX4_eyesBest_X4 0 mbX4_eyesBest_f9 dX4_eyesBest_62 rfl rfl (by decide) rfl ?_
            refine lv_aload_n hx hb dX4_eyesBest_65 rfl (lv_at hl 0 rfl) ?_
            refine k_get (v := .ref (ad 2)) F hK hH 0 inX4_eyesBest_X4 1 mbX4_eyesBest_f13 dX4_eyesBest_66 rfl rfl (by decide) rfl ?_
            obtain ⟨x10, hcl, hf⟩ := wp_b hf
            refine k_Sv F hK hH hA hl.1 ⟨Nat.zero_le _, Nat.zero_le _⟩ [1, 2] [.ref (ad 1), .ref (ad 2)] [] (ctX4_copies (ad 1) (ad 2) xs t7 hcl) (va_cwS 2 hts gX4_eyesBest_X4_copies rfl rfl rfl hdSX4_copies ⟨Nat.le_of_ble_eq_true rfl, Nat.le_of_ble_eq_true rfl⟩) dX4_eyesBest_69 rfl rfl (Nat.le_of_ble_eq_true rfl) rfl rfl (by decide) (fun H locs hH => ?_)
            have hH : Hs D A s.heap (wMd cI ad xs x10 xi xw xh xl xr xe xn xo xp xu xd) H locs := hH
            refine lv_aload_n hx hb dX4_eyesBest_72 rfl (lv_at hl 0 rfl) ?_
            refine k_get (v := .ref (ad 2)) F hK hH 0 inX4_eyesBest_X4 1 mbX4_eyesBest_f13 dX4_eyesBest_73 rfl rfl (by decide) rfl ?_
            refine lv_iconst (v := 2) hx hb dX4_eyesBest_76 (by decide) ?_
            refine lv_iload hx hb dX4_eyesBest_77 (lv_at hl 5 rfl) ?_
            refine k_iast (f := x10) (n := 53) F hK hH 2 dX4_eyesBest_79 (by decide) rfl (fun H locs hH => ?_)
            have hH : Hs D A s.heap (wMd cI ad xs (upd x10 (Int32.toNatClampNeg 2) t6) xi xw xh xl xr xe xn xo xp xu xd) H locs := hH
            refine lv_aload_n hx hb dX4_eyesBest_80 rfl (lv_at hl 0 rfl) ?_
            refine k_get (v := .ref (ad 2)) F hK hH 0 inX4_eyesBest_X4 1 mbX4_eyesBest_f13 dX4_eyesBest_81 rfl rfl (by decide) rfl ?_
            refine lv_iload_n hx hb dX4_eyesBest_84 rfl (lv_at hl 1 rfl) ?_
            obtain ⟨x11, hcl, hf⟩ := wp_b hf
            refine k_Si F hK hH hA hl.1 ⟨Nat.zero_le _, Nat.zero_le _⟩ [2] [.ref (ad 2), .int v1] [] (ctX4_verdictIn (ad 2) (upd x10 (Int32.toNatClampNeg 2) t6) v1 hcl) (va_cwS 2 hts gX4_eyesBest_X4_verdictIn rfl rfl rfl hdSX4_verdictIn ⟨Nat.le_of_ble_eq_true rfl, Nat.le_of_ble_eq_true rfl⟩) dX4_eyesBest_85 rfl rfl (Nat.le_of_ble_eq_true rfl) rfl rfl (by decide) (fun H locs hH => ?_)
            have hH : Hs D A s.heap (wMd cI ad xs (upd x10 (Int32.toNatClampNeg 2) t6) xi xw xh xl xr xe xn xo xp xu xd) H locs := hH
            refine lv_iload_n hx hb dX4_eyesBest_88 rfl (lv_at hl 2 rfl) ?_
            refine lv_icmp_ne (tgt := 106) hx hb dX4_eyesBest_89 (by decide) (fun hc => ?_) (fun hc => ?_)
            · have hf := wp_f hc hf
              refine lv_iinc (v := t6 + 1) (lv' := [(6, .int (t6 + 1)), (0, .ref (ad 0)), (1, .int v1), (2, .int v2), (3, .int v3), (5, .int t5)]) hx hb dX4_eyesBest_106 hl (k := 5) rfl rfl (by decide) rfl (fun ls hl => ?_)
              refine lv_goto (tgt := 54) hx hb dX4_eyesBest_109 (by decide) ?_
              have hw := wp_in hf
              exact ih _ _ _ _ _ _ hw hH (lv_sub hl [1, 2, 3, 4, 5, 0] rfl)
            · have hf := wp_t hc hf
              refine lv_iload hx hb dX4_eyesBest_92 (lv_at hl 4 rfl) ?_
              refine lv_if_lt (tgt := 102) hx hb dX4_eyesBest_94 (by decide) (fun hc => ?_) (fun hc => ?_)
              · have hf := wp_t hc hf
                refine lv_iload hx hb dX4_eyesBest_102 (lv_at hl 5 rfl) ?_
                refine lv_istore (lv' := [(5, .int t6), (0, .ref (ad 0)), (1, .int v1), (2, .int v2), (3, .int v3), (6, .int t6)]) hx hb dX4_eyesBest_104 hl (by decide) rfl (fun ls hl => ?_)
                refine lv_iinc (v := t6 + 1) (lv' := [(6, .int (t6 + 1)), (5, .int t6), (0, .ref (ad 0)), (1, .int v1), (2, .int v2), (3, .int v3)]) hx hb dX4_eyesBest_106 hl (k := 5) rfl rfl (by decide) rfl (fun ls hl => ?_)
                refine lv_goto (tgt := 54) hx hb dX4_eyesBest_109 (by decide) ?_
                have hw := wp_in hf
                exact ih _ _ _ _ _ _ hw hH (lv_sub hl [2, 3, 4, 5, 1, 0] rfl)
              · have hf := wp_f hc hf
                refine lv_iload_n hx hb dX4_eyesBest_97 rfl (lv_at hl 3 rfl) ?_
                refine lv_iconst (v := 1) hx hb dX4_eyesBest_98 (by decide) ?_
                refine lv_icmp_ne (tgt := 106) hx hb dX4_eyesBest_99 (by decide) (fun hc => ?_) (fun hc => ?_)
                · have hf := wp_f hc hf
                  refine lv_iinc (v := t6 + 1) (lv' := [(6, .int (t6 + 1)), (0, .ref (ad 0)), (1, .int v1), (2, .int v2), (3, .int v3), (5, .int t5)]) hx hb dX4_eyesBest_106 hl (k := 5) rfl rfl (by decide) rfl (fun ls hl => ?_)
                  refine lv_goto (tgt := 54) hx hb dX4_eyesBest_109 (by decide) ?_
                  have hw := wp_in hf
                  exact ih _ _ _ _ _ _ hw hH (lv_sub hl [1, 2, 3, 4, 5, 0] rfl)
                · have hf := wp_t hc hf
                  refine lv_iload hx hb dX4_eyesBest_102 (lv_at hl 5 rfl) ?_
                  refine lv_istore (lv' := [(5, .int t6), (0, .ref (ad 0)), (1, .int v1), (2, .int v2), (3, .int v3), (6, .int t6)]) hx hb dX4_eyesBest_104 hl (by decide) rfl (fun ls hl => ?_)
                  refine lv_iinc (v := t6 + 1) (lv' := [(6, .int (t6 + 1)), (5, .int t6), (0, .ref (ad 0)), (1, .int v1), (2, .int v2), (3, .int v3)]) hx hb dX4_eyesBest_106 hl (k := 5) rfl rfl (by decide) rfl (fun ls hl => ?_)
                  refine lv_goto (tgt := 54) hx hb dX4_eyesBest_109 (by decide) ?_
                  have hw := wp_in hf
                  exact ih _ _ _ _ _ _ hw hH (lv_sub hl [2, 3, 4, 5, 1, 0] rfl)
      refine LP _ (fun t8 t9 H locs ls hf hH hl => ?_) fu _ _ _ _ _ _ (wp_bb hf) hH (lv_sub hl [3, 4, 5, 6, 1, 0] rfl)
      refine lv_iload hx hb dX4_eyesBest_112 (lv_at hl 0 rfl) ?_
      have hrs := wp_s hf
      subst hrs
      exact RET H locs ls 114 dX4_eyesBest_114 rfl hH
    · have hf := wp_f hc hf
      refine lv_aload_n hx hb dX4_eyesBest_40 rfl (lv_at hl 1 rfl) ?_
      refine lv_iload hx hb dX4_eyesBest_41 (lv_at hl 0 rfl) ?_
      obtain ⟨x12, hcl, hf⟩ := wp_b hf
      refine k_Vi0 F hK hH hA hl.1 ⟨Nat.zero_le _, Nat.zero_le _⟩ [.int t2] [] (ctX4_no ad xs xm xi xw xh xl xr xe xn xo xp xu xd t2 hcl) (cwV 1 hts gX4_eyesBest_X4_no rfl rfl rfl hdVX4_no ⟨Nat.le_of_ble_eq_true rfl, Nat.le_of_ble_eq_true rfl⟩) dX4_eyesBest_43 0 rfl rfl rfl rfl rfl (Nat.le_of_ble_eq_true rfl) rfl (fun H locs hH => ?_)
      have hH : Hs D A s.heap (wMd cI ad xs xm xi xw xh xl xr x12.2 xn xo xp xu xd) H locs := hH
      refine W.eq (g2 := F0 m 46 ls [.int x12.1]) rfl ?_
      have hrs := wp_s hf
      subst hrs
      exact RET H locs ls 46 dX4_eyesBest_46 rfl hH
  · intro Φ JJ hf
    refine lv_if_ne (tgt := 11) hx hb dX4_eyesBest_4 (by decide) (fun hc => ?_) (fun hc => ?_)
    · have hf := wp_f hc hf
      refine lv_iload_n hx hb dX4_eyesBest_11 rfl (lv_at hl 2 rfl) ?_
      obtain ⟨x3, hcl, hf⟩ := wp_b hf
      refine k_Si F hK hH hA hl.1 ⟨Nat.zero_le _, Nat.zero_le _⟩ [] [.int v2] [] (ctX4_isVerdict v2 hcl) (va_cwS 1 hts gX4_eyesBest_X4_isVerdict rfl rfl rfl hdSX4_isVerdict ⟨Nat.le_of_ble_eq_true rfl, Nat.le_of_ble_eq_true rfl⟩) dX4_eyesBest_12 rfl rfl (Nat.le_of_ble_eq_true rfl) rfl rfl (by decide) (fun H locs hH => ?_)
      have hH : Hs D A s.heap (wMd cI ad xs xm xi xw xh xl xr xe xn xo xp xu xd) H locs := hH
      refine lv_if_eq (tgt := 31) hx hb dX4_eyesBest_15 (by decide) (fun hc => ?_) (fun hc => ?_)
      · have hf := wp_t hc hf
        refine lv_bipush (v := (-2)) hx hb dX4_eyesBest_31 (by decide) ?_
        have hw := wp_s hf
        exact JJ _ _ _ _ hw hH (lv_sub hl [0, 1, 2, 3] rfl)
      · have hf := wp_f hc hf
        refine lv_iload_n hx hb dX4_eyesBest_18 rfl (lv_at hl 3 rfl) ?_
        refine lv_iconst (v := 0) hx hb dX4_eyesBest_19 (by decide) ?_
        refine lv_iconst (v := 1) hx hb dX4_eyesBest_20 (by decide) ?_
        obtain ⟨x4, hcl, hf⟩ := wp_b hf
        refine k_Si F hK hH hA hl.1 ⟨Nat.zero_le _, Nat.zero_le _⟩ [] [.int v3, .int 0, .int 1] [] (ctX4_isIn v3 0 1 hcl) (va_cwS 3 hts gX4_eyesBest_X4_isIn rfl rfl rfl hdSX4_isIn ⟨Nat.le_of_ble_eq_true rfl, Nat.le_of_ble_eq_true rfl⟩) dX4_eyesBest_21 rfl rfl (Nat.le_of_ble_eq_true rfl) rfl rfl (by decide) (fun H locs hH => ?_)
        have hH : Hs D A s.heap (wMd cI ad xs xm xi xw xh xl xr xe xn xo xp xu xd) H locs := hH
        refine lv_if_eq (tgt := 31) hx hb dX4_eyesBest_24 (by decide) (fun hc => ?_) (fun hc => ?_)
        · have hf := wp_t hc hf
          refine lv_bipush (v := (-2)) hx hb dX4_eyesBest_31 (by decide) ?_
          have hw := wp_s hf
          exact JJ _ _ _ _ hw hH (lv_sub hl [0, 1, 2, 3] rfl)
        · have hf := wp_f hc hf
          refine lv_iconst (v := 0) hx hb dX4_eyesBest_27 (by decide) ?_
          refine lv_goto (tgt := 33) hx hb dX4_eyesBest_28 (by decide) ?_
          have hw := wp_s hf
          exact JJ _ _ _ _ hw hH (lv_sub hl [0, 1, 2, 3] rfl)
    · have hf := wp_t hc hf
      refine lv_iconst (v := (-1)) hx hb dX4_eyesBest_7 (by decide) ?_
      refine lv_goto (tgt := 33) hx hb dX4_eyesBest_8 (by decide) ?_
      have hw := wp_s hf
      exact JJ _ _ _ _ hw hH (lv_sub hl [0, 1, 2, 3] rfl)

def bX4_ranked_31 (v1 : Int32) (xs : (Nat → Int32)) : (Int32 × Int32 × Int32 × (Nat → Int32)) → Option ((Int32 × Int32 × Int32 × (Nat → Int32)) ⊕ (Int32 × Int32 × (Nat → Int32))) := fun ((t4, t5, t6, t7) : Int32 × Int32 × Int32 × (Nat → Int32)) =>
  if (6 : Int32) ≤ t6 then
    some (.inr (t4, t5, t7))
  else
    Option.bind (fX4_copies xs t7) fun x11 =>
    if ob (26 + t6) 53 then none else
    Option.bind (fX4_branchesIn v1 (upd x11 (Int32.toNatClampNeg (26 + t6)) 10)) fun x12 =>
    Option.bind (fX4_bits x12) fun x13 =>
    if t5 < x13 then
      some (.inl (t6, x13, t6 + 1, upd x11 (Int32.toNatClampNeg (26 + t6)) 10))
    else
      some (.inl (t4, t5, t6 + 1, upd x11 (Int32.toNatClampNeg (26 + t6)) 10))

def fX4_ranked (v1 : Int32) (v2 : Int32) (xs : (Nat → Int32)) (xm : (Nat → Int32)) (xe : (Nat → Int32)) : Option (Int32 × (Nat → Int32) × (Nat → Int32)) :=
  Option.bind (fX4_isVerdict v1) fun x1 =>
  if x1 = 0 then
    Option.bind (fX4_no (-2) xe) fun x2 =>
    some (x2.1, xm, x2.2)
  else
    Option.bind (fX4_isIn v2 0 1) fun x3 =>
    if x3 = 0 then
      Option.bind (fX4_no (-2) xe) fun x14 =>
      some (x14.1, xm, x14.2)
    else
      Option.bind (lp (bX4_ranked_31 v1 xs) fu (0, (-1), 0, xm)) fun ((t8, t9, t10) : Int32 × Int32 × (Nat → Int32)) =>
      if v2 = 0 then
        some (t8, t10, xe)
      else
        some (t9, t10, xe)

def rmX4_ranked : Room := { frames := 6, cells := 0, slots := 0, locals := 136 }
theorem mbX4_ranked_f9 : Cond.fieldLink RX4 9 (TX4 0).1 (TX4 0).2.1 (TX4 0).2.2.1 ∈ wsX4_ranked := by decide +kernel
theorem inX4_ranked_X4 : ∀ w ∈ wsX40, w ∈ wsX4_ranked := by decide +kernel
theorem mbX4_ranked_f13 : Cond.fieldLink RX4 13 (TX4 1).1 (TX4 1).2.1 (TX4 1).2.2.1 ∈ wsX4_ranked := by decide +kernel
theorem hdVX4_ranked : yX4_ranked.cls = RX4 ∧ yX4_ranked.cls ≠ "java/lang/invoke/MethodHandle" ∧ yX4_ranked.cls ≠ "java/lang/invoke/VarHandle" ∧ (parseMethodDescriptor yX4_ranked.desc).map (fun d => d.parameters.length) = some 2 := by decide +kernel
set_option maxHeartbeats 4000000 in
set_option maxRecDepth 100000 in
theorem ctX4_ranked {l : Launch} {D : va_G} {cI cJ cQ : ClassId} (ad : Nat → Nat) (xs : (Nat → Int32)) (xm : (Nat → Int32)) (xi : (Nat → Int32)) (xw : (Nat → Int32)) (xh : Int32) (xl : (Nat → Int32)) (xr : (Nat → Int32)) (xe : (Nat → Int32)) (xn : Int32) (xo : Int32) (xp : Int32) (xu : (Nat → Int32)) (xd : Int32) (v1 : Int32) (v2 : Int32) {res : Int32 × (Nat → Int32) × (Nat → Int32)} (h : fX4_ranked v1 v2 xs xm xe = some res) : CtI l D cI cJ cQ yX4_ranked wsX4_ranked rmX4_ranked [.ref (ad 0), .int v1, .int v2] (wMd cI ad xs xm xi xw xh xl xr xe xn xo xp xu xd) res.1 (wMd cI ad xs res.2.1 xi xw xh xl xr res.2.2 xn xo xp xu xd) := by
  refine ctI_of .int (cc := cX4_ranked) (maxL := 7) (by decide) rfl (Nat.le_of_ble_eq_true rfl) ?_
  intro p e s m args below meth c A Q ls F hK hA RET hH hl
  obtain ⟨hx, hb, hml, hown, hts⟩ := id F
  have hl : lv_has ls 7 [(0, .ref (ad 0)), (1, .int v1), (2, .int v2)] := hl
  have hf : wpO (fX4_ranked v1 v2 xs xm xe) (fun v => v = res) := ⟨_, h, rfl⟩
  obtain ⟨H, eH⟩ : ∃ H, H = s.heap := ⟨_, rfl⟩
  obtain ⟨locs, eL⟩ : ∃ locs : List Loc, locs = [] := ⟨_, rfl⟩
  have hH : Hs D A s.heap (wMd cI ad xs xm xi xw xh xl xr xe xn xo xp xu xd) H locs := by rw [eH, eL]; exact hH
  rw [← eL]
  suffices hgo : W p l e rmX4_ranked s m args below meth c H locs 0 0 Q (F0 m 0 ls []) by rw [eH] at hgo; exact hgo
  clear eH eL
  refine lv_iload_n hx hb dX4_ranked_0 rfl (lv_at hl 1 rfl) ?_
  obtain ⟨x1, hcl, hf⟩ := wp_b hf
  refine k_Si F hK hH hA hl.1 ⟨Nat.zero_le _, Nat.zero_le _⟩ [] [.int v1] [] (ctX4_isVerdict v1 hcl) (va_cwS 1 hts gX4_ranked_X4_isVerdict rfl rfl rfl hdSX4_isVerdict ⟨Nat.le_of_ble_eq_true rfl, Nat.le_of_ble_eq_true rfl⟩) dX4_ranked_1 rfl rfl (Nat.le_of_ble_eq_true rfl) rfl rfl (by decide) (fun H locs hH => ?_)
  have hH : Hs D A s.heap (wMd cI ad xs xm xi xw xh xl xr xe xn xo xp xu xd) H locs := hH
  refine lv_if_eq (tgt := 16) hx hb dX4_ranked_4 (by decide) (fun hc => ?_) (fun hc => ?_)
  · have hf := wp_t hc hf
    refine lv_aload_n hx hb dX4_ranked_16 rfl (lv_at hl 0 rfl) ?_
    refine lv_bipush (v := (-2)) hx hb dX4_ranked_17 (by decide) ?_
    obtain ⟨x2, hcl, hf⟩ := wp_b hf
    refine k_Vi0 F hK hH hA hl.1 ⟨Nat.zero_le _, Nat.zero_le _⟩ [.int (-2)] [] (ctX4_no ad xs xm xi xw xh xl xr xe xn xo xp xu xd (-2) hcl) (cwV 1 hts gX4_ranked_X4_no rfl rfl rfl hdVX4_no ⟨Nat.le_of_ble_eq_true rfl, Nat.le_of_ble_eq_true rfl⟩) dX4_ranked_19 0 rfl rfl rfl rfl rfl (Nat.le_of_ble_eq_true rfl) rfl (fun H locs hH => ?_)
    have hH : Hs D A s.heap (wMd cI ad xs xm xi xw xh xl xr x2.2 xn xo xp xu xd) H locs := hH
    refine W.eq (g2 := F0 m 22 ls [.int x2.1]) rfl ?_
    have hrs := wp_s hf
    subst hrs
    exact RET H locs ls 22 dX4_ranked_22 rfl hH
  · have hf := wp_f hc hf
    refine lv_iload_n hx hb dX4_ranked_7 rfl (lv_at hl 2 rfl) ?_
    refine lv_iconst (v := 0) hx hb dX4_ranked_8 (by decide) ?_
    refine lv_iconst (v := 1) hx hb dX4_ranked_9 (by decide) ?_
    obtain ⟨x3, hcl, hf⟩ := wp_b hf
    refine k_Si F hK hH hA hl.1 ⟨Nat.zero_le _, Nat.zero_le _⟩ [] [.int v2, .int 0, .int 1] [] (ctX4_isIn v2 0 1 hcl) (va_cwS 3 hts gX4_ranked_X4_isIn rfl rfl rfl hdSX4_isIn ⟨Nat.le_of_ble_eq_true rfl, Nat.le_of_ble_eq_true rfl⟩) dX4_ranked_10 rfl rfl (Nat.le_of_ble_eq_true rfl) rfl rfl (by decide) (fun H locs hH => ?_)
    have hH : Hs D A s.heap (wMd cI ad xs xm xi xw xh xl xr xe xn xo xp xu xd) H locs := hH
    refine lv_if_ne (tgt := 23) hx hb dX4_ranked_13 (by decide) (fun hc => ?_) (fun hc => ?_)
    · have hf := wp_f hc hf
      refine lv_iconst (v := 0) hx hb dX4_ranked_23 (by decide) ?_
      refine lv_istore_n (lv' := [(3, .int 0), (0, .ref (ad 0)), (1, .int v1), (2, .int v2)]) hx hb dX4_ranked_24 rfl hl (by decide) rfl (fun ls hl => ?_)
      refine lv_iconst (v := (-1)) hx hb dX4_ranked_25 (by decide) ?_
      refine lv_istore (lv' := [(4, .int (-1)), (3, .int 0), (0, .ref (ad 0)), (1, .int v1), (2, .int v2)]) hx hb dX4_ranked_26 hl (by decide) rfl (fun ls hl => ?_)
      refine lv_iconst (v := 0) hx hb dX4_ranked_28 (by decide) ?_
      refine lv_istore (lv' := [(5, .int 0), (4, .int (-1)), (3, .int 0), (0, .ref (ad 0)), (1, .int v1), (2, .int v2)]) hx hb dX4_ranked_29 hl (by decide) rfl (fun ls hl => ?_)
      have LP : ∀ (Φ : (Int32 × Int32 × (Nat → Int32)) → Prop), (∀ (t8 : Int32) (t9 : Int32) (t10 : (Nat → Int32)) (H : Heap) (locs : List Loc) (ls : Array Slot), Φ ((t8, t9, t10)) → Hs D A s.heap (wMd cI ad xs t10 xi xw xh xl xr xe xn xo xp xu xd) H locs → lv_has ls 7 [(2, .int v2), (3, .int t8), (4, .int t9)] → W p l e rmX4_ranked s m args below meth c H locs 0 0 Q (F0 m 97 ls [])) → ∀ (n : Nat) (t4 : Int32) (t5 : Int32) (t6 : Int32) (t7 : (Nat → Int32)) (H : Heap) (locs : List Loc) (ls : Array Slot), wpO (lp (bX4_ranked_31 v1 xs) n (t4, t5, t6, t7)) Φ → Hs D A s.heap (wMd cI ad xs t7 xi xw xh xl xr xe xn xo xp xu xd) H locs → lv_has ls 7 [(0, .ref (ad 0)), (1, .int v1), (2, .int v2), (3, .int t4), (4, .int t5), (5, .int t6)] → W p l e rmX4_ranked s m args below meth c H locs 0 0 Q (F0 m 31 ls []) := by
        intro Φ EX n
        induction n with
        | zero =>
          intro t4 t5 t6 t7 H locs ls hf hH hl
          exact (wp_l0 hf).elim
        | succ n ih =>
          intro t4 t5 t6 t7 H locs ls hf hH hl
          have hf := wp_l hf
          refine lv_iload hx hb dX4_ranked_31 (lv_at hl 5 rfl) ?_
          refine lv_bipush (v := 6) hx hb dX4_ranked_33 (by decide) ?_
          refine lv_icmp_ge (tgt := 97) hx hb dX4_ranked_35 (by decide) (fun hc => ?_) (fun hc => ?_)
          · have hf := wp_t hc hf
            have hw := wp_out hf
            exact EX _ _ _ _ _ _ hw hH (lv_sub hl [2, 3, 4] rfl)
          · have hf := wp_f hc hf
            refine lv_aload_n hx hb dX4_ranked_38 rfl (lv_at hl 0 rfl) ?_
            refine k_get (v := .ref (ad 1)) F hK hH 0 inX4_ranked_X4 0 mbX4_ranked_f9 dX4_ranked_39 rfl rfl (by decide) rfl ?_
            refine lv_aload_n hx hb dX4_ranked_42 rfl (lv_at hl 0 rfl) ?_
            refine k_get (v := .ref (ad 2)) F hK hH 0 inX4_ranked_X4 1 mbX4_ranked_f13 dX4_ranked_43 rfl rfl (by decide) rfl ?_
            obtain ⟨x11, hcl, hf⟩ := wp_b hf
            refine k_Sv F hK hH hA hl.1 ⟨Nat.zero_le _, Nat.zero_le _⟩ [1, 2] [.ref (ad 1), .ref (ad 2)] [] (ctX4_copies (ad 1) (ad 2) xs t7 hcl) (va_cwS 2 hts gX4_ranked_X4_copies rfl rfl rfl hdSX4_copies ⟨Nat.le_of_ble_eq_true rfl, Nat.le_of_ble_eq_true rfl⟩) dX4_ranked_46 rfl rfl (Nat.le_of_ble_eq_true rfl) rfl rfl (by decide) (fun H locs hH => ?_)
            have hH : Hs D A s.heap (wMd cI ad xs x11 xi xw xh xl xr xe xn xo xp xu xd) H locs := hH
            refine lv_aload_n hx hb dX4_ranked_49 rfl (lv_at hl 0 rfl) ?_
            refine k_get (v := .ref (ad 2)) F hK hH 0 inX4_ranked_X4 1 mbX4_ranked_f13 dX4_ranked_50 rfl rfl (by decide) rfl ?_
            refine lv_bipush (v := 26) hx hb dX4_ranked_53 (by decide) ?_
            refine lv_iload hx hb dX4_ranked_55 (lv_at hl 5 rfl) ?_
            refine lv_iadd hx hb dX4_ranked_57 ?_
            refine lv_bipush (v := 10) hx hb dX4_ranked_58 (by decide) ?_
            obtain ⟨hi, hf⟩ := wp_n hf
            refine k_iast (f := x11) (n := 53) F hK hH 2 dX4_ranked_60 hi rfl (fun H locs hH => ?_)
            have hH : Hs D A s.heap (wMd cI ad xs (upd x11 (Int32.toNatClampNeg (26 + t6)) 10) xi xw xh xl xr xe xn xo xp xu xd) H locs := hH
            refine lv_aload_n hx hb dX4_ranked_61 rfl (lv_at hl 0 rfl) ?_
            refine k_get (v := .ref (ad 2)) F hK hH 0 inX4_ranked_X4 1 mbX4_ranked_f13 dX4_ranked_62 rfl rfl (by decide) rfl ?_
            refine lv_iload_n hx hb dX4_ranked_65 rfl (lv_at hl 1 rfl) ?_
            obtain ⟨x12, hcl, hf⟩ := wp_b hf
            refine k_Si F hK hH hA hl.1 ⟨Nat.zero_le _, Nat.zero_le _⟩ [2] [.ref (ad 2), .int v1] [] (ctX4_branchesIn (ad 2) (upd x11 (Int32.toNatClampNeg (26 + t6)) 10) v1 hcl) (va_cwS 2 hts gX4_ranked_X4_branchesIn rfl rfl rfl hdSX4_branchesIn ⟨Nat.le_of_ble_eq_true rfl, Nat.le_of_ble_eq_true rfl⟩) dX4_ranked_66 rfl rfl (Nat.le_of_ble_eq_true rfl) rfl rfl (by decide) (fun H locs hH => ?_)
            have hH : Hs D A s.heap (wMd cI ad xs (upd x11 (Int32.toNatClampNeg (26 + t6)) 10) xi xw xh xl xr xe xn xo xp xu xd) H locs := hH
            obtain ⟨x13, hcl, hf⟩ := wp_b hf
            refine k_Si F hK hH hA hl.1 ⟨Nat.zero_le _, Nat.zero_le _⟩ [] [.int x12] [] (ctX4_bits x12 hcl) (va_cwS 1 hts gX4_ranked_X4_bits rfl rfl rfl hdSX4_bits ⟨Nat.le_of_ble_eq_true rfl, Nat.le_of_ble_eq_true rfl⟩) dX4_ranked_69 rfl rfl (Nat.le_of_ble_eq_true rfl) rfl rfl (by decide) (fun H locs hH => ?_)
            have hH : Hs D A s.heap (wMd cI ad xs (upd x11 (Int32.toNatClampNeg (26 + t6)) 10) xi xw xh xl xr xe xn xo xp xu xd) H locs := hH
            refine lv_istore (lv' := [(6, .int x13), (0, .ref (ad 0)), (1, .int v1), (2, .int v2), (3, .int t4), (4, .int t5), (5, .int t6)]) hx hb dX4_ranked_72 hl (by decide) rfl (fun ls hl => ?_)
            refine lv_iload hx hb dX4_ranked_74 (lv_at hl 0 rfl) ?_
            refine lv_iload hx hb dX4_ranked_76 (lv_at hl 5 rfl) ?_
            refine lv_icmp_gt (tgt := 84) hx hb dX4_ranked_78 (by decide) (fun hc => ?_) (fun hc => ?_)
            · have hf := wp_t hc hf
              refine lv_iload hx hb dX4_ranked_84 (lv_at hl 6 rfl) ?_
              refine lv_istore_n (lv' := [(3, .int t6), (6, .int x13), (0, .ref (ad 0)), (1, .int v1), (2, .int v2), (4, .int t5), (5, .int t6)]) hx hb dX4_ranked_86 rfl hl (by decide) rfl (fun ls hl => ?_)
              refine lv_iload hx hb dX4_ranked_87 (lv_at hl 1 rfl) ?_
              refine lv_istore (lv' := [(4, .int x13), (3, .int t6), (6, .int x13), (0, .ref (ad 0)), (1, .int v1), (2, .int v2), (5, .int t6)]) hx hb dX4_ranked_89 hl (by decide) rfl (fun ls hl => ?_)
              refine lv_iinc (v := t6 + 1) (lv' := [(5, .int (t6 + 1)), (4, .int x13), (3, .int t6), (6, .int x13), (0, .ref (ad 0)), (1, .int v1), (2, .int v2)]) hx hb dX4_ranked_91 hl (k := 6) rfl rfl (by decide) rfl (fun ls hl => ?_)
              refine lv_goto (tgt := 31) hx hb dX4_ranked_94 (by decide) ?_
              have hw := wp_in hf
              exact ih _ _ _ _ _ _ _ hw hH (lv_sub hl [4, 5, 6, 2, 1, 0] rfl)
            · have hf := wp_f hc hf
              refine lv_goto (tgt := 91) hx hb dX4_ranked_81 (by decide) ?_
              refine lv_iinc (v := t6 + 1) (lv' := [(5, .int (t6 + 1)), (6, .int x13), (0, .ref (ad 0)), (1, .int v1), (2, .int v2), (3, .int t4), (4, .int t5)]) hx hb dX4_ranked_91 hl (k := 6) rfl rfl (by decide) rfl (fun ls hl => ?_)
              refine lv_goto (tgt := 31) hx hb dX4_ranked_94 (by decide) ?_
              have hw := wp_in hf
              exact ih _ _ _ _ _ _ _ hw hH (lv_sub hl [2, 3, 4, 5, 6, 0] rfl)
      refine LP _ (fun t8 t9 t10 H locs ls hf hH hl => ?_) fu _ _ _ _ _ _ _ (wp_bb hf) hH (lv_sub hl [3, 4, 5, 2, 1, 0] rfl)
      refine lv_iload_n hx hb dX4_ranked_97 rfl (lv_at hl 0 rfl) ?_
      refine lv_if_ne (tgt := 105) hx hb dX4_ranked_98 (by decide) (fun hc => ?_) (fun hc => ?_)
      · have hf := wp_f hc hf
        refine lv_iload hx hb dX4_ranked_105 (lv_at hl 2 rfl) ?_
        have hrs := wp_s hf
        subst hrs
        exact RET H locs ls 107 dX4_ranked_107 rfl hH
      · have hf := wp_t hc hf
        refine lv_iload_n hx hb dX4_ranked_101 rfl (lv_at hl 1 rfl) ?_
        refine lv_goto (tgt := 107) hx hb dX4_ranked_102 (by decide) ?_
        have hrs := wp_s hf
        subst hrs
        exact RET H locs ls 107 dX4_ranked_107 rfl hH
    · have hf := wp_t hc hf
      refine lv_aload_n hx hb dX4_ranked_16 rfl (lv_at hl 0 rfl) ?_
      refine lv_bipush (v := (-2)) hx hb dX4_ranked_17 (by decide) ?_
      obtain ⟨x14, hcl, hf⟩ := wp_b hf
      refine k_Vi0 F hK hH hA hl.1 ⟨Nat.zero_le _, Nat.zero_le _⟩ [.int (-2)] [] (ctX4_no ad xs xm xi xw xh xl xr xe xn xo xp xu xd (-2) hcl) (cwV 1 hts gX4_ranked_X4_no rfl rfl rfl hdVX4_no ⟨Nat.le_of_ble_eq_true rfl, Nat.le_of_ble_eq_true rfl⟩) dX4_ranked_19 0 rfl rfl rfl rfl rfl (Nat.le_of_ble_eq_true rfl) rfl (fun H locs hH => ?_)
      have hH : Hs D A s.heap (wMd cI ad xs xm xi xw xh xl xr x14.2 xn xo xp xu xd) H locs := hH
      refine W.eq (g2 := F0 m 22 ls [.int x14.1]) rfl ?_
      have hrs := wp_s hf
      subst hrs
      exact RET H locs ls 22 dX4_ranked_22 rfl hH

def bX4_runFrom_2 (v1 : Int32) (xs : (Nat → Int32)) : (Int32) → Option ((Int32) ⊕ (Int32)) := fun (t1 : Int32) =>
  if (10 : Int32) ≤ t1 then
    some (.inr t1)
  else
    Option.bind (fX4_verdictIn t1 xs) fun x3 =>
    Option.bind (fX4_verdictIn v1 xs) fun x4 =>
    if x3 = x4 then
      some (.inl (t1 + 1))
    else
      some (.inr t1)

def fX4_runFrom (v1 : Int32) (xs : (Nat → Int32)) : Option (Int32) :=
  Option.bind (lp (bX4_runFrom_2 v1 xs) fu v1) fun (t2 : Int32) =>
  some (t2 - v1)

def rmX4_runFrom : Room := { frames := 5, cells := 0, slots := 0, locals := 113 }
theorem mbX4_runFrom_f9 : Cond.fieldLink RX4 9 (TX4 0).1 (TX4 0).2.1 (TX4 0).2.2.1 ∈ wsX4_runFrom := by decide +kernel
theorem inX4_runFrom_X4 : ∀ w ∈ wsX40, w ∈ wsX4_runFrom := by decide +kernel
theorem hdVX4_runFrom : yX4_runFrom.cls = RX4 ∧ yX4_runFrom.cls ≠ "java/lang/invoke/MethodHandle" ∧ yX4_runFrom.cls ≠ "java/lang/invoke/VarHandle" ∧ (parseMethodDescriptor yX4_runFrom.desc).map (fun d => d.parameters.length) = some 1 := by decide +kernel
set_option maxHeartbeats 4000000 in
set_option maxRecDepth 100000 in
theorem ctX4_runFrom {l : Launch} {D : va_G} {cI cJ cQ : ClassId} (ad : Nat → Nat) (xs : (Nat → Int32)) (xm : (Nat → Int32)) (xi : (Nat → Int32)) (xw : (Nat → Int32)) (xh : Int32) (xl : (Nat → Int32)) (xr : (Nat → Int32)) (xe : (Nat → Int32)) (xn : Int32) (xo : Int32) (xp : Int32) (xu : (Nat → Int32)) (xd : Int32) (v1 : Int32) {res : Int32} (h : fX4_runFrom v1 xs = some res) : CtI l D cI cJ cQ yX4_runFrom wsX4_runFrom rmX4_runFrom [.ref (ad 0), .int v1] (wMd cI ad xs xm xi xw xh xl xr xe xn xo xp xu xd) res (wMd cI ad xs xm xi xw xh xl xr xe xn xo xp xu xd) := by
  refine ctI_of .int (cc := cX4_runFrom) (maxL := 3) (by decide) rfl (Nat.le_of_ble_eq_true rfl) ?_
  intro p e s m args below meth c A Q ls F hK hA RET hH hl
  obtain ⟨hx, hb, hml, hown, hts⟩ := id F
  have hl : lv_has ls 3 [(0, .ref (ad 0)), (1, .int v1)] := hl
  have hf : wpO (fX4_runFrom v1 xs) (fun v => v = res) := ⟨_, h, rfl⟩
  obtain ⟨H, eH⟩ : ∃ H, H = s.heap := ⟨_, rfl⟩
  obtain ⟨locs, eL⟩ : ∃ locs : List Loc, locs = [] := ⟨_, rfl⟩
  have hH : Hs D A s.heap (wMd cI ad xs xm xi xw xh xl xr xe xn xo xp xu xd) H locs := by rw [eH, eL]; exact hH
  rw [← eL]
  suffices hgo : W p l e rmX4_runFrom s m args below meth c H locs 0 0 Q (F0 m 0 ls []) by rw [eH] at hgo; exact hgo
  clear eH eL
  refine lv_iload_n hx hb dX4_runFrom_0 rfl (lv_at hl 1 rfl) ?_
  refine lv_istore_n (lv' := [(2, .int v1), (0, .ref (ad 0)), (1, .int v1)]) hx hb dX4_runFrom_1 rfl hl (by decide) rfl (fun ls hl => ?_)
  have LP : ∀ (Φ : (Int32) → Prop), (∀ (t2 : Int32) (H : Heap) (locs : List Loc) (ls : Array Slot), Φ (t2) → Hs D A s.heap (wMd cI ad xs xm xi xw xh xl xr xe xn xo xp xu xd) H locs → lv_has ls 3 [(1, .int v1), (2, .int t2)] → W p l e rmX4_runFrom s m args below meth c H locs 0 0 Q (F0 m 33 ls [])) → ∀ (n : Nat) (t1 : Int32) (H : Heap) (locs : List Loc) (ls : Array Slot), wpO (lp (bX4_runFrom_2 v1 xs) n t1) Φ → Hs D A s.heap (wMd cI ad xs xm xi xw xh xl xr xe xn xo xp xu xd) H locs → lv_has ls 3 [(0, .ref (ad 0)), (1, .int v1), (2, .int t1)] → W p l e rmX4_runFrom s m args below meth c H locs 0 0 Q (F0 m 2 ls []) := by
    intro Φ EX n
    induction n with
    | zero =>
      intro t1 H locs ls hf hH hl
      exact (wp_l0 hf).elim
    | succ n ih =>
      intro t1 H locs ls hf hH hl
      have hf := wp_l hf
      refine lv_iload_n hx hb dX4_runFrom_2 rfl (lv_at hl 2 rfl) ?_
      refine lv_bipush (v := 10) hx hb dX4_runFrom_3 (by decide) ?_
      refine lv_icmp_ge (tgt := 33) hx hb dX4_runFrom_5 (by decide) (fun hc => ?_) (fun hc => ?_)
      · have hf := wp_t hc hf
        have hw := wp_out hf
        exact EX _ _ _ _ hw hH (lv_sub hl [1, 2] rfl)
      · have hf := wp_f hc hf
        refine lv_aload_n hx hb dX4_runFrom_8 rfl (lv_at hl 0 rfl) ?_
        refine k_get (v := .ref (ad 1)) F hK hH 0 inX4_runFrom_X4 0 mbX4_runFrom_f9 dX4_runFrom_9 rfl rfl (by decide) rfl ?_
        refine lv_iload_n hx hb dX4_runFrom_12 rfl (lv_at hl 2 rfl) ?_
        obtain ⟨x3, hcl, hf⟩ := wp_b hf
        refine k_Si F hK hH hA hl.1 ⟨Nat.zero_le _, Nat.zero_le _⟩ [1] [.ref (ad 1), .int t1] [] (ctX4_verdictIn (ad 1) xs t1 hcl) (va_cwS 2 hts gX4_runFrom_X4_verdictIn rfl rfl rfl hdSX4_verdictIn ⟨Nat.le_of_ble_eq_true rfl, Nat.le_of_ble_eq_true rfl⟩) dX4_runFrom_13 rfl rfl (Nat.le_of_ble_eq_true rfl) rfl rfl (by decide) (fun H locs hH => ?_)
        have hH : Hs D A s.heap (wMd cI ad xs xm xi xw xh xl xr xe xn xo xp xu xd) H locs := hH
        refine lv_aload_n hx hb dX4_runFrom_16 rfl (lv_at hl 0 rfl) ?_
        refine k_get (v := .ref (ad 1)) F hK hH 0 inX4_runFrom_X4 0 mbX4_runFrom_f9 dX4_runFrom_17 rfl rfl (by decide) rfl ?_
        refine lv_iload_n hx hb dX4_runFrom_20 rfl (lv_at hl 1 rfl) ?_
        obtain ⟨x4, hcl, hf⟩ := wp_b hf
        refine k_Si F hK hH hA hl.1 ⟨Nat.zero_le _, Nat.zero_le _⟩ [1] [.ref (ad 1), .int v1] [.int x3] (ctX4_verdictIn (ad 1) xs v1 hcl) (va_cwS 2 hts gX4_runFrom_X4_verdictIn rfl rfl rfl hdSX4_verdictIn ⟨Nat.le_of_ble_eq_true rfl, Nat.le_of_ble_eq_true rfl⟩) dX4_runFrom_21 rfl rfl (Nat.le_of_ble_eq_true rfl) rfl rfl (by decide) (fun H locs hH => ?_)
        have hH : Hs D A s.heap (wMd cI ad xs xm xi xw xh xl xr xe xn xo xp xu xd) H locs := hH
        refine lv_icmp_ne (tgt := 33) hx hb dX4_runFrom_24 (by decide) (fun hc => ?_) (fun hc => ?_)
        · have hf := wp_f hc hf
          have hw := wp_out hf
          exact EX _ _ _ _ hw hH (lv_sub hl [1, 2] rfl)
        · have hf := wp_t hc hf
          refine lv_iinc (v := t1 + 1) (lv' := [(2, .int (t1 + 1)), (0, .ref (ad 0)), (1, .int v1)]) hx hb dX4_runFrom_27 hl (k := 2) rfl rfl (by decide) rfl (fun ls hl => ?_)
          refine lv_goto (tgt := 2) hx hb dX4_runFrom_30 (by decide) ?_
          have hw := wp_in hf
          exact ih _ _ _ _ hw hH (lv_sub hl [1, 2, 0] rfl)
  refine LP _ (fun t2 H locs ls hf hH hl => ?_) fu _ _ _ _ (wp_bb hf) hH (lv_sub hl [1, 2, 0] rfl)
  refine lv_iload_n hx hb dX4_runFrom_33 rfl (lv_at hl 1 rfl) ?_
  refine lv_iload_n hx hb dX4_runFrom_34 rfl (lv_at hl 0 rfl) ?_
  refine lv_isub hx hb dX4_runFrom_35 ?_
  have hrs := wp_s hf
  subst hrs
  exact RET H locs ls 36 dX4_runFrom_36 rfl hH

