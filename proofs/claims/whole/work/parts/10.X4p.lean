def bX4_lots_72 (xs : (Nat → Int32)) : (Int32 × (Nat → Int32) × Int32) → Option ((Int32 × (Nat → Int32) × Int32) ⊕ ((Nat → Int32) × Int32)) := fun ((t10, t11, t12) : Int32 × (Nat → Int32) × Int32) =>
  if (xs (Int32.toNatClampNeg 0)) ≤ t10 then
    some (.inr (t11, t12))
  else
    Option.bind (fX4_of t10 2) fun x15 =>
    Option.bind (fX4_drawn 16 t12) fun x16 =>
    if ob x15 53 then none else
    some (.inl (t10 + 1, upd t11 (Int32.toNatClampNeg x15) x16.1, x16.2))

def bX4_lots_52 (v1 : Int32) (v3 : Int32) (xs : (Nat → Int32)) : (Int32 × Int32 × (Nat → Int32) × Int32) → Option ((Int32 × Int32 × (Nat → Int32) × Int32) ⊕ (Int32 × (Nat → Int32) × Int32)) := fun ((t2, t3, t4, t5) : Int32 × Int32 × (Nat → Int32) × Int32) =>
  if v1 ≤ t3 then
    some (.inr (t2, t4, t5))
  else
    Option.bind (fX4_copies xs t4) fun x9 =>
    Option.bind (lp (bX4_lots_72 xs) fu (0, x9, t5)) fun ((t13, t14) : (Nat → Int32) × Int32) =>
    Option.bind (fX4_drawn 10 t14) fun x17 =>
    Option.bind (if v3 = 1 then
        Option.bind (fX4_seenIn x17.1 t13) fun x20 =>
        Option.bind (fX4_bits x20) fun x21 =>
        some x21
      else
        Option.bind (fX4_verdictIn x17.1 t13) fun x19 =>
        if x19 = 1 then
          some 1
        else
          some 0) fun (t18 : Int32) =>
    some (.inl (t2 + t18, t3 + 1, t13, x17.2))

def fX4_lots (v1 : Int32) (v2 : Int32) (v3 : Int32) (xs : (Nat → Int32)) (xm : (Nat → Int32)) (xe : (Nat → Int32)) (xd : Int32) : Option (Int32 × (Nat → Int32) × (Nat → Int32) × Int32) :=
  if (1 : Int32) ≤ v1 then
    if v1 ≤ 20 then
      Option.bind (fX4_isIn v3 0 1) fun x1 =>
      if x1 = 0 then
        Option.bind (fX4_no (-2) xe) fun x22 =>
        some (x22.1, xm, x22.2, xd)
      else
        Option.bind (lp (bX4_lots_52 v1 v3 xs) fu (0, 0, xm, v2)) fun ((t6, t7, t8) : Int32 × (Nat → Int32) × Int32) =>
        some (t6, t7, xe, t8)
    else
      Option.bind (fX4_no (-6) xe) fun x23 =>
      some (x23.1, xm, x23.2, xd)
  else
    Option.bind (fX4_no (-4) xe) fun x24 =>
    some (x24.1, xm, x24.2, xd)

def rmX4_lots : Room := { frames := 5, cells := 0, slots := 0, locals := 113 }
theorem mbX4_lots_f193 : Cond.fieldLink RX4 193 (TX4 12).1 (TX4 12).2.1 (TX4 12).2.2.1 ∈ wsX4_lots := by decide +kernel
theorem mbX4_lots_f9 : Cond.fieldLink RX4 9 (TX4 0).1 (TX4 0).2.1 (TX4 0).2.2.1 ∈ wsX4_lots := by decide +kernel
theorem inX4_lots_X4 : ∀ w ∈ wsX40, w ∈ wsX4_lots := by decide +kernel
theorem mbX4_lots_f13 : Cond.fieldLink RX4 13 (TX4 1).1 (TX4 1).2.1 (TX4 1).2.2.1 ∈ wsX4_lots := by decide +kernel
theorem hdVX4_lots : yX4_lots.cls = RX4 ∧ yX4_lots.cls ≠ "java/lang/invoke/MethodHandle" ∧ yX4_lots.cls ≠ "java/lang/invoke/VarHandle" ∧ (parseMethodDescriptor yX4_lots.desc).map (fun d => d.parameters.length) = some 3 := by decide +kernel
set_option maxHeartbeats 4000000 in
set_option maxRecDepth 100000 in
theorem ctX4_lots {l : Launch} {D : va_G} {cI cJ cQ : ClassId} (ad : Nat → Nat) (xs : (Nat → Int32)) (xm : (Nat → Int32)) (xi : (Nat → Int32)) (xw : (Nat → Int32)) (xh : Int32) (xl : (Nat → Int32)) (xr : (Nat → Int32)) (xe : (Nat → Int32)) (xn : Int32) (xo : Int32) (xp : Int32) (xu : (Nat → Int32)) (xd : Int32) (v1 : Int32) (v2 : Int32) (v3 : Int32) {res : Int32 × (Nat → Int32) × (Nat → Int32) × Int32} (h : fX4_lots v1 v2 v3 xs xm xe xd = some res) : CtI l D cI cJ cQ yX4_lots wsX4_lots rmX4_lots [.ref (ad 0), .int v1, .int v2, .int v3] (wMd cI ad xs xm xi xw xh xl xr xe xn xo xp xu xd) res.1 (wMd cI ad xs res.2.1 xi xw xh xl xr res.2.2.1 xn xo xp xu res.2.2.2) := by
  refine ctI_of .int (cc := cX4_lots) (maxL := 7) (by decide) rfl (Nat.le_of_ble_eq_true rfl) ?_
  intro p e s m args below meth c A Q ls F hK hA RET hH hl
  obtain ⟨hx, hb, hml, hown, hts⟩ := id F
  have hl : lv_has ls 7 [(0, .ref (ad 0)), (1, .int v1), (2, .int v2), (3, .int v3)] := hl
  have hf : wpO (fX4_lots v1 v2 v3 xs xm xe xd) (fun v => v = res) := ⟨_, h, rfl⟩
  obtain ⟨H, eH⟩ : ∃ H, H = s.heap := ⟨_, rfl⟩
  obtain ⟨locs, eL⟩ : ∃ locs : List Loc, locs = [] := ⟨_, rfl⟩
  have hH : Hs D A s.heap (wMd cI ad xs xm xi xw xh xl xr xe xn xo xp xu xd) H locs := by rw [eH, eL]; exact hH
  rw [← eL]
  suffices hgo : W p l e rmX4_lots s m args below meth c H locs 0 0 Q (F0 m 0 ls []) by rw [eH] at hgo; exact hgo
  clear eH eL
  refine lv_iload_n hx hb dX4_lots_0 rfl (lv_at hl 1 rfl) ?_
  refine lv_iconst (v := 1) hx hb dX4_lots_1 (by decide) ?_
  refine lv_icmp_ge (tgt := 12) hx hb dX4_lots_2 (by decide) (fun hc => ?_) (fun hc => ?_)
  · have hf := wp_t hc hf
    refine lv_iload_n hx hb dX4_lots_12 rfl (lv_at hl 1 rfl) ?_
    refine lv_bipush (v := 20) hx hb dX4_lots_13 (by decide) ?_
    refine lv_icmp_le (tgt := 25) hx hb dX4_lots_15 (by decide) (fun hc => ?_) (fun hc => ?_)
    · have hf := wp_t hc hf
      refine lv_iload_n hx hb dX4_lots_25 rfl (lv_at hl 3 rfl) ?_
      refine lv_iconst (v := 0) hx hb dX4_lots_26 (by decide) ?_
      refine lv_iconst (v := 1) hx hb dX4_lots_27 (by decide) ?_
      obtain ⟨x1, hcl, hf⟩ := wp_b hf
      refine k_Si F hK hH hA hl.1 ⟨Nat.zero_le _, Nat.zero_le _⟩ [] [.int v3, .int 0, .int 1] [] (ctX4_isIn v3 0 1 hcl) (va_cwS 3 hts gX4_lots_X4_isIn rfl rfl rfl hdSX4_isIn ⟨Nat.le_of_ble_eq_true rfl, Nat.le_of_ble_eq_true rfl⟩) dX4_lots_28 rfl rfl (Nat.le_of_ble_eq_true rfl) rfl rfl (by decide) (fun H locs hH => ?_)
      have hH : Hs D A s.heap (wMd cI ad xs xm xi xw xh xl xr xe xn xo xp xu xd) H locs := hH
      refine lv_if_ne (tgt := 41) hx hb dX4_lots_31 (by decide) (fun hc => ?_) (fun hc => ?_)
      · have hf := wp_f hc hf
        refine lv_aload_n hx hb dX4_lots_41 rfl (lv_at hl 0 rfl) ?_
        refine lv_iload_n hx hb dX4_lots_42 rfl (lv_at hl 2 rfl) ?_
        refine k_put (v := .int v2) F hK hH 0 inX4_lots_X4 tyX4 tyX4_ok nmX4 12 mbX4_lots_f193 dX4_lots_43 rfl rfl (by decide) rfl rfl rfl (Nat.le_of_ble_eq_true rfl) (fun H locs hH => ?_)
        have hH : Hs D A s.heap (wMd cI ad xs xm xi xw xh xl xr xe xn xo xp xu v2) H locs := hH
        refine lv_iconst (v := 0) hx hb dX4_lots_46 (by decide) ?_
        refine lv_istore (lv' := [(4, .int 0), (0, .ref (ad 0)), (1, .int v1), (2, .int v2), (3, .int v3)]) hx hb dX4_lots_47 hl (by decide) rfl (fun ls hl => ?_)
        refine lv_iconst (v := 0) hx hb dX4_lots_49 (by decide) ?_
        refine lv_istore (lv' := [(5, .int 0), (4, .int 0), (0, .ref (ad 0)), (1, .int v1), (2, .int v2), (3, .int v3)]) hx hb dX4_lots_50 hl (by decide) rfl (fun ls hl => ?_)
        have LP : ∀ (Φ : (Int32 × (Nat → Int32) × Int32) → Prop), (∀ (t6 : Int32) (t7 : (Nat → Int32)) (t8 : Int32) (H : Heap) (locs : List Loc) (ls : Array Slot), Φ ((t6, t7, t8)) → Hs D A s.heap (wMd cI ad xs t7 xi xw xh xl xr xe xn xo xp xu t8) H locs → lv_has ls 7 [(4, .int t6)] → W p l e rmX4_lots s m args below meth c H locs 0 0 Q (F0 m 163 ls [])) → ∀ (n : Nat) (t2 : Int32) (t3 : Int32) (t4 : (Nat → Int32)) (t5 : Int32) (H : Heap) (locs : List Loc) (ls : Array Slot), wpO (lp (bX4_lots_52 v1 v3 xs) n (t2, t3, t4, t5)) Φ → Hs D A s.heap (wMd cI ad xs t4 xi xw xh xl xr xe xn xo xp xu t5) H locs → lv_has ls 7 [(0, .ref (ad 0)), (1, .int v1), (3, .int v3), (4, .int t2), (5, .int t3)] → W p l e rmX4_lots s m args below meth c H locs 0 0 Q (F0 m 52 ls []) := by
          intro Φ EX n
          induction n with
          | zero =>
            intro t2 t3 t4 t5 H locs ls hf hH hl
            exact (wp_l0 hf).elim
          | succ n ih =>
            intro t2 t3 t4 t5 H locs ls hf hH hl
            have hf := wp_l hf
            refine lv_iload hx hb dX4_lots_52 (lv_at hl 4 rfl) ?_
            refine lv_iload_n hx hb dX4_lots_54 rfl (lv_at hl 1 rfl) ?_
            refine lv_icmp_ge (tgt := 163) hx hb dX4_lots_55 (by decide) (fun hc => ?_) (fun hc => ?_)
            · have hf := wp_t hc hf
              have hw := wp_out hf
              exact EX _ _ _ _ _ _ hw hH (lv_sub hl [3] rfl)
            · have hf := wp_f hc hf
              refine lv_aload_n hx hb dX4_lots_58 rfl (lv_at hl 0 rfl) ?_
              refine k_get (v := .ref (ad 1)) F hK hH 0 inX4_lots_X4 0 mbX4_lots_f9 dX4_lots_59 rfl rfl (by decide) rfl ?_
              refine lv_aload_n hx hb dX4_lots_62 rfl (lv_at hl 0 rfl) ?_
              refine k_get (v := .ref (ad 2)) F hK hH 0 inX4_lots_X4 1 mbX4_lots_f13 dX4_lots_63 rfl rfl (by decide) rfl ?_
              obtain ⟨x9, hcl, hf⟩ := wp_b hf
              refine k_Sv F hK hH hA hl.1 ⟨Nat.zero_le _, Nat.zero_le _⟩ [1, 2] [.ref (ad 1), .ref (ad 2)] [] (ctX4_copies (ad 1) (ad 2) xs t4 hcl) (va_cwS 2 hts gX4_lots_X4_copies rfl rfl rfl hdSX4_copies ⟨Nat.le_of_ble_eq_true rfl, Nat.le_of_ble_eq_true rfl⟩) dX4_lots_66 rfl rfl (Nat.le_of_ble_eq_true rfl) rfl rfl (by decide) (fun H locs hH => ?_)
              have hH : Hs D A s.heap (wMd cI ad xs x9 xi xw xh xl xr xe xn xo xp xu t5) H locs := hH
              refine lv_iconst (v := 0) hx hb dX4_lots_69 (by decide) ?_
              refine lv_istore (lv' := [(6, .int 0), (0, .ref (ad 0)), (1, .int v1), (3, .int v3), (4, .int t2), (5, .int t3)]) hx hb dX4_lots_70 hl (by decide) rfl (fun ls hl => ?_)
              have LP : ∀ (Φ : ((Nat → Int32) × Int32) → Prop), (∀ (t13 : (Nat → Int32)) (t14 : Int32) (H : Heap) (locs : List Loc) (ls : Array Slot), Φ ((t13, t14)) → Hs D A s.heap (wMd cI ad xs t13 xi xw xh xl xr xe xn xo xp xu t14) H locs → lv_has ls 7 [(0, .ref (ad 0)), (1, .int v1), (3, .int v3), (4, .int t2), (5, .int t3)] → W p l e rmX4_lots s m args below meth c H locs 0 0 Q (F0 m 106 ls [])) → ∀ (n : Nat) (t10 : Int32) (t11 : (Nat → Int32)) (t12 : Int32) (H : Heap) (locs : List Loc) (ls : Array Slot), wpO (lp (bX4_lots_72 xs) n (t10, t11, t12)) Φ → Hs D A s.heap (wMd cI ad xs t11 xi xw xh xl xr xe xn xo xp xu t12) H locs → lv_has ls 7 [(0, .ref (ad 0)), (1, .int v1), (3, .int v3), (4, .int t2), (5, .int t3), (6, .int t10)] → W p l e rmX4_lots s m args below meth c H locs 0 0 Q (F0 m 72 ls []) := by
                intro Φ EX n
                induction n with
                | zero =>
                  intro t10 t11 t12 H locs ls hf hH hl
                  exact (wp_l0 hf).elim
                | succ n ih =>
                  intro t10 t11 t12 H locs ls hf hH hl
                  have hf := wp_l hf
                  refine lv_iload hx hb dX4_lots_72 (lv_at hl 5 rfl) ?_
                  refine lv_aload_n hx hb dX4_lots_74 rfl (lv_at hl 0 rfl) ?_
                  refine k_get (v := .ref (ad 1)) F hK hH 0 inX4_lots_X4 0 mbX4_lots_f9 dX4_lots_75 rfl rfl (by decide) rfl ?_
                  refine lv_iconst (v := 0) hx hb dX4_lots_78 (by decide) ?_
                  refine k_iald (f := xs) (n := 53) F hK hH 1 dX4_lots_79 (by decide) rfl ?_
                  refine lv_icmp_ge (tgt := 106) hx hb dX4_lots_80 (by decide) (fun hc => ?_) (fun hc => ?_)
                  · have hf := wp_t hc hf
                    have hw := wp_out hf
                    exact EX _ _ _ _ _ hw hH (lv_sub hl [0, 1, 2, 3, 4] rfl)
                  · have hf := wp_f hc hf
                    refine lv_aload_n hx hb dX4_lots_83 rfl (lv_at hl 0 rfl) ?_
                    refine k_get (v := .ref (ad 2)) F hK hH 0 inX4_lots_X4 1 mbX4_lots_f13 dX4_lots_84 rfl rfl (by decide) rfl ?_
                    refine lv_iload hx hb dX4_lots_87 (lv_at hl 5 rfl) ?_
                    refine lv_iconst (v := 2) hx hb dX4_lots_89 (by decide) ?_
                    obtain ⟨x15, hcl, hf⟩ := wp_b hf
                    refine k_Si F hK hH hA hl.1 ⟨Nat.zero_le _, Nat.zero_le _⟩ [] [.int t10, .int 2] [.ref (ad 2)] (ctX4_of t10 2 hcl) (va_cwS 2 hts gX4_lots_X4_of rfl rfl rfl hdSX4_of ⟨Nat.le_of_ble_eq_true rfl, Nat.le_of_ble_eq_true rfl⟩) dX4_lots_90 rfl rfl (Nat.le_of_ble_eq_true rfl) rfl rfl (by decide) (fun H locs hH => ?_)
                    have hH : Hs D A s.heap (wMd cI ad xs t11 xi xw xh xl xr xe xn xo xp xu t12) H locs := hH
                    refine lv_aload_n hx hb dX4_lots_93 rfl (lv_at hl 0 rfl) ?_
                    refine lv_bipush (v := 16) hx hb dX4_lots_94 (by decide) ?_
                    obtain ⟨x16, hcl, hf⟩ := wp_b hf
                    refine k_Vi0 F hK hH hA hl.1 ⟨Nat.zero_le _, Nat.zero_le _⟩ [.int 16] [.int x15, .ref (ad 2)] (ctX4_drawn ad xs t11 xi xw xh xl xr xe xn xo xp xu t12 16 hcl) (cwV 1 hts gX4_lots_X4_drawn rfl rfl rfl hdVX4_drawn ⟨Nat.le_of_ble_eq_true rfl, Nat.le_of_ble_eq_true rfl⟩) dX4_lots_96 0 rfl rfl rfl rfl rfl (Nat.le_of_ble_eq_true rfl) rfl (fun H locs hH => ?_)
                    have hH : Hs D A s.heap (wMd cI ad xs t11 xi xw xh xl xr xe xn xo xp xu x16.2) H locs := hH
                    refine W.eq (g2 := F0 m 99 ls [.int x16.1, .int x15, .ref (ad 2)]) rfl ?_
                    obtain ⟨hi, hf⟩ := wp_n hf
                    refine k_iast (f := t11) (n := 53) F hK hH 2 dX4_lots_99 hi rfl (fun H locs hH => ?_)
                    have hH : Hs D A s.heap (wMd cI ad xs (upd t11 (Int32.toNatClampNeg x15) x16.1) xi xw xh xl xr xe xn xo xp xu x16.2) H locs := hH
                    refine lv_iinc (v := t10 + 1) (lv' := [(6, .int (t10 + 1)), (0, .ref (ad 0)), (1, .int v1), (3, .int v3), (4, .int t2), (5, .int t3)]) hx hb dX4_lots_100 hl (k := 5) rfl rfl (by decide) rfl (fun ls hl => ?_)
                    refine lv_goto (tgt := 72) hx hb dX4_lots_103 (by decide) ?_
                    have hw := wp_in hf
                    exact ih _ _ _ _ _ _ hw hH (lv_sub hl [1, 2, 3, 4, 5, 0] rfl)
              refine LP _ (fun t13 t14 H locs ls hf hH hl => ?_) fu _ _ _ _ _ _ (wp_bb hf) hH (lv_sub hl [1, 2, 3, 4, 5, 0] rfl)
              refine lv_aload_n hx hb dX4_lots_106 rfl (lv_at hl 0 rfl) ?_
              refine lv_bipush (v := 10) hx hb dX4_lots_107 (by decide) ?_
              obtain ⟨x17, hcl, hf⟩ := wp_b hf
              refine k_Vi0 F hK hH hA hl.1 ⟨Nat.zero_le _, Nat.zero_le _⟩ [.int 10] [] (ctX4_drawn ad xs t13 xi xw xh xl xr xe xn xo xp xu t14 10 hcl) (cwV 1 hts gX4_lots_X4_drawn rfl rfl rfl hdVX4_drawn ⟨Nat.le_of_ble_eq_true rfl, Nat.le_of_ble_eq_true rfl⟩) dX4_lots_109 0 rfl rfl rfl rfl rfl (Nat.le_of_ble_eq_true rfl) rfl (fun H locs hH => ?_)
              have hH : Hs D A s.heap (wMd cI ad xs t13 xi xw xh xl xr xe xn xo xp xu x17.2) H locs := hH
              refine W.eq (g2 := F0 m 112 ls [.int x17.1]) rfl ?_
              refine lv_istore (lv' := [(6, .int x17.1), (0, .ref (ad 0)), (1, .int v1), (3, .int v3), (4, .int t2), (5, .int t3)]) hx hb dX4_lots_112 hl (by decide) rfl (fun ls hl => ?_)
              refine lv_iload hx hb dX4_lots_114 (lv_at hl 4 rfl) ?_
              refine lv_iload_n hx hb dX4_lots_116 rfl (lv_at hl 3 rfl) ?_
              refine lv_iconst (v := 1) hx hb dX4_lots_117 (by decide) ?_
              refine join_ (α := Int32) (fun Φ => ∀ (t18 : Int32) (H : Heap) (locs : List Loc) (ls : Array Slot), Φ t18 → Hs D A s.heap (wMd cI ad xs t13 xi xw xh xl xr xe xn xo xp xu x17.2) H locs → lv_has ls 7 [(0, .ref (ad 0)), (1, .int v1), (3, .int v3), (5, .int t3)] → W p l e rmX4_lots s m args below meth c H locs 0 0 Q (F0 m 154 ls [.int t18, .int t2])) (wp_bb hf) ?_ ?_
              · intro t18 H locs ls hf hH hl
                refine lv_iadd hx hb dX4_lots_154 ?_
                refine lv_istore (lv' := [(4, .int (t2 + t18)), (0, .ref (ad 0)), (1, .int v1), (3, .int v3), (5, .int t3)]) hx hb dX4_lots_155 hl (by decide) rfl (fun ls hl => ?_)
                refine lv_iinc (v := t3 + 1) (lv' := [(5, .int (t3 + 1)), (4, .int (t2 + t18)), (0, .ref (ad 0)), (1, .int v1), (3, .int v3)]) hx hb dX4_lots_157 hl (k := 4) rfl rfl (by decide) rfl (fun ls hl => ?_)
                refine lv_goto (tgt := 52) hx hb dX4_lots_160 (by decide) ?_
                have hw := wp_in hf
                exact ih _ _ _ _ _ _ _ hw hH (lv_sub hl [2, 3, 4, 1, 0] rfl)
              · intro Φ JJ hf
                refine lv_icmp_ne (tgt := 136) hx hb dX4_lots_118 (by decide) (fun hc => ?_) (fun hc => ?_)
                · have hf := wp_f hc hf
                  refine lv_aload_n hx hb dX4_lots_136 rfl (lv_at hl 1 rfl) ?_
                  refine k_get (v := .ref (ad 2)) F hK hH 0 inX4_lots_X4 1 mbX4_lots_f13 dX4_lots_137 rfl rfl (by decide) rfl ?_
                  refine lv_iload hx hb dX4_lots_140 (lv_at hl 0 rfl) ?_
                  obtain ⟨x19, hcl, hf⟩ := wp_b hf
                  refine k_Si F hK hH hA hl.1 ⟨Nat.zero_le _, Nat.zero_le _⟩ [2] [.ref (ad 2), .int x17.1] [.int t2] (ctX4_verdictIn (ad 2) t13 x17.1 hcl) (va_cwS 2 hts gX4_lots_X4_verdictIn rfl rfl rfl hdSX4_verdictIn ⟨Nat.le_of_ble_eq_true rfl, Nat.le_of_ble_eq_true rfl⟩) dX4_lots_142 rfl rfl (Nat.le_of_ble_eq_true rfl) rfl rfl (by decide) (fun H locs hH => ?_)
                  have hH : Hs D A s.heap (wMd cI ad xs t13 xi xw xh xl xr xe xn xo xp xu x17.2) H locs := hH
                  refine lv_iconst (v := 1) hx hb dX4_lots_145 (by decide) ?_
                  refine lv_icmp_ne (tgt := 153) hx hb dX4_lots_146 (by decide) (fun hc => ?_) (fun hc => ?_)
                  · have hf := wp_f hc hf
                    refine lv_iconst (v := 0) hx hb dX4_lots_153 (by decide) ?_
                    have hw := wp_s hf
                    exact JJ _ _ _ _ hw hH (lv_sub hl [1, 2, 3, 5] rfl)
                  · have hf := wp_t hc hf
                    refine lv_iconst (v := 1) hx hb dX4_lots_149 (by decide) ?_
                    refine lv_goto (tgt := 154) hx hb dX4_lots_150 (by decide) ?_
                    have hw := wp_s hf
                    exact JJ _ _ _ _ hw hH (lv_sub hl [1, 2, 3, 5] rfl)
                · have hf := wp_t hc hf
                  refine lv_aload_n hx hb dX4_lots_121 rfl (lv_at hl 1 rfl) ?_
                  refine k_get (v := .ref (ad 2)) F hK hH 0 inX4_lots_X4 1 mbX4_lots_f13 dX4_lots_122 rfl rfl (by decide) rfl ?_
                  refine lv_iload hx hb dX4_lots_125 (lv_at hl 0 rfl) ?_
                  obtain ⟨x20, hcl, hf⟩ := wp_b hf
                  refine k_Si F hK hH hA hl.1 ⟨Nat.zero_le _, Nat.zero_le _⟩ [2] [.ref (ad 2), .int x17.1] [.int t2] (ctX4_seenIn (ad 2) t13 x17.1 hcl) (va_cwS 2 hts gX4_lots_X4_seenIn rfl rfl rfl hdSX4_seenIn ⟨Nat.le_of_ble_eq_true rfl, Nat.le_of_ble_eq_true rfl⟩) dX4_lots_127 rfl rfl (Nat.le_of_ble_eq_true rfl) rfl rfl (by decide) (fun H locs hH => ?_)
                  have hH : Hs D A s.heap (wMd cI ad xs t13 xi xw xh xl xr xe xn xo xp xu x17.2) H locs := hH
                  obtain ⟨x21, hcl, hf⟩ := wp_b hf
                  refine k_Si F hK hH hA hl.1 ⟨Nat.zero_le _, Nat.zero_le _⟩ [] [.int x20] [.int t2] (ctX4_bits x20 hcl) (va_cwS 1 hts gX4_lots_X4_bits rfl rfl rfl hdSX4_bits ⟨Nat.le_of_ble_eq_true rfl, Nat.le_of_ble_eq_true rfl⟩) dX4_lots_130 rfl rfl (Nat.le_of_ble_eq_true rfl) rfl rfl (by decide) (fun H locs hH => ?_)
                  have hH : Hs D A s.heap (wMd cI ad xs t13 xi xw xh xl xr xe xn xo xp xu x17.2) H locs := hH
                  refine lv_goto (tgt := 154) hx hb dX4_lots_133 (by decide) ?_
                  have hw := wp_s hf
                  exact JJ _ _ _ _ hw hH (lv_sub hl [1, 2, 3, 5] rfl)
        refine LP _ (fun t6 t7 t8 H locs ls hf hH hl => ?_) fu _ _ _ _ _ _ _ (wp_bb hf) hH (lv_sub hl [2, 3, 5, 1, 0] rfl)
        refine lv_iload hx hb dX4_lots_163 (lv_at hl 0 rfl) ?_
        have hrs := wp_s hf
        subst hrs
        exact RET H locs ls 165 dX4_lots_165 rfl hH
      · have hf := wp_t hc hf
        refine lv_aload_n hx hb dX4_lots_34 rfl (lv_at hl 0 rfl) ?_
        refine lv_bipush (v := (-2)) hx hb dX4_lots_35 (by decide) ?_
        obtain ⟨x22, hcl, hf⟩ := wp_b hf
        refine k_Vi0 F hK hH hA hl.1 ⟨Nat.zero_le _, Nat.zero_le _⟩ [.int (-2)] [] (ctX4_no ad xs xm xi xw xh xl xr xe xn xo xp xu xd (-2) hcl) (cwV 1 hts gX4_lots_X4_no rfl rfl rfl hdVX4_no ⟨Nat.le_of_ble_eq_true rfl, Nat.le_of_ble_eq_true rfl⟩) dX4_lots_37 0 rfl rfl rfl rfl rfl (Nat.le_of_ble_eq_true rfl) rfl (fun H locs hH => ?_)
        have hH : Hs D A s.heap (wMd cI ad xs xm xi xw xh xl xr x22.2 xn xo xp xu xd) H locs := hH
        refine W.eq (g2 := F0 m 40 ls [.int x22.1]) rfl ?_
        have hrs := wp_s hf
        subst hrs
        exact RET H locs ls 40 dX4_lots_40 rfl hH
    · have hf := wp_f hc hf
      refine lv_aload_n hx hb dX4_lots_18 rfl (lv_at hl 0 rfl) ?_
      refine lv_bipush (v := (-6)) hx hb dX4_lots_19 (by decide) ?_
      obtain ⟨x23, hcl, hf⟩ := wp_b hf
      refine k_Vi0 F hK hH hA hl.1 ⟨Nat.zero_le _, Nat.zero_le _⟩ [.int (-6)] [] (ctX4_no ad xs xm xi xw xh xl xr xe xn xo xp xu xd (-6) hcl) (cwV 1 hts gX4_lots_X4_no rfl rfl rfl hdVX4_no ⟨Nat.le_of_ble_eq_true rfl, Nat.le_of_ble_eq_true rfl⟩) dX4_lots_21 0 rfl rfl rfl rfl rfl (Nat.le_of_ble_eq_true rfl) rfl (fun H locs hH => ?_)
      have hH : Hs D A s.heap (wMd cI ad xs xm xi xw xh xl xr x23.2 xn xo xp xu xd) H locs := hH
      refine W.eq (g2 := F0 m 24 ls [.int x23.1]) rfl ?_
      have hrs := wp_s hf
      subst hrs
      exact RET H locs ls 24 dX4_lots_24 rfl hH
  · have hf := wp_f hc hf
    refine lv_aload_n hx hb dX4_lots_5 rfl (lv_at hl 0 rfl) ?_
    refine lv_bipush (v := (-4)) hx hb dX4_lots_6 (by decide) ?_
    obtain ⟨x24, hcl, hf⟩ := wp_b hf
    refine k_Vi0 F hK hH hA hl.1 ⟨Nat.zero_le _, Nat.zero_le _⟩ [.int (-4)] [] (ctX4_no ad xs xm xi xw xh xl xr xe xn xo xp xu xd (-4) hcl) (cwV 1 hts gX4_lots_X4_no rfl rfl rfl hdVX4_no ⟨Nat.le_of_ble_eq_true rfl, Nat.le_of_ble_eq_true rfl⟩) dX4_lots_8 0 rfl rfl rfl rfl rfl (Nat.le_of_ble_eq_true rfl) rfl (fun H locs hH => ?_)
    have hH : Hs D A s.heap (wMd cI ad xs xm xi xw xh xl xr x24.2 xn xo xp xu xd) H locs := hH
    refine W.eq (g2 := F0 m 11 ls [.int x24.1]) rfl ?_
    have hrs := wp_s hf
    subst hrs
    exact RET H locs ls 11 dX4_lots_11 rfl hH

def fX4_image (xs : (Nat → Int32)) (xi : (Nat → Int32)) (xh : Int32) : Option (Int32 × (Nat → Int32) × Int32) :=
  Option.bind (fX4_copies xs xi) fun x1 =>
  some (xs (Int32.toNatClampNeg 1), x1, 1)

def rmX4_image : Room := { frames := 1, cells := 0, slots := 0, locals := 22 }
theorem mbX4_image_f9 : Cond.fieldLink RX4 9 (TX4 0).1 (TX4 0).2.1 (TX4 0).2.2.1 ∈ wsX4_image := by decide +kernel
theorem inX4_image_X4 : ∀ w ∈ wsX40, w ∈ wsX4_image := by decide +kernel
theorem mbX4_image_f16 : Cond.fieldLink RX4 16 (TX4 2).1 (TX4 2).2.1 (TX4 2).2.2.1 ∈ wsX4_image := by decide +kernel
theorem mbX4_image_f202 : Cond.fieldLink RX4 202 (TX4 4).1 (TX4 4).2.1 (TX4 4).2.2.1 ∈ wsX4_image := by decide +kernel
theorem hdVX4_image : yX4_image.cls = RX4 ∧ yX4_image.cls ≠ "java/lang/invoke/MethodHandle" ∧ yX4_image.cls ≠ "java/lang/invoke/VarHandle" ∧ (parseMethodDescriptor yX4_image.desc).map (fun d => d.parameters.length) = some 0 := by decide +kernel
set_option maxHeartbeats 4000000 in
set_option maxRecDepth 100000 in
theorem ctX4_image {l : Launch} {D : va_G} {cI cJ cQ : ClassId} (ad : Nat → Nat) (xs : (Nat → Int32)) (xm : (Nat → Int32)) (xi : (Nat → Int32)) (xw : (Nat → Int32)) (xh : Int32) (xl : (Nat → Int32)) (xr : (Nat → Int32)) (xe : (Nat → Int32)) (xn : Int32) (xo : Int32) (xp : Int32) (xu : (Nat → Int32)) (xd : Int32)  {res : Int32 × (Nat → Int32) × Int32} (h : fX4_image xs xi xh = some res) : CtI l D cI cJ cQ yX4_image wsX4_image rmX4_image [.ref (ad 0)] (wMd cI ad xs xm xi xw xh xl xr xe xn xo xp xu xd) res.1 (wMd cI ad xs xm res.2.1 xw res.2.2 xl xr xe xn xo xp xu xd) := by
  refine ctI_of .int (cc := cX4_image) (maxL := 1) (by decide) rfl (Nat.le_of_ble_eq_true rfl) ?_
  intro p e s m args below meth c A Q ls F hK hA RET hH hl
  obtain ⟨hx, hb, hml, hown, hts⟩ := id F
  have hl : lv_has ls 1 [(0, .ref (ad 0))] := hl
  have hf : wpO (fX4_image xs xi xh) (fun v => v = res) := ⟨_, h, rfl⟩
  obtain ⟨H, eH⟩ : ∃ H, H = s.heap := ⟨_, rfl⟩
  obtain ⟨locs, eL⟩ : ∃ locs : List Loc, locs = [] := ⟨_, rfl⟩
  have hH : Hs D A s.heap (wMd cI ad xs xm xi xw xh xl xr xe xn xo xp xu xd) H locs := by rw [eH, eL]; exact hH
  rw [← eL]
  suffices hgo : W p l e rmX4_image s m args below meth c H locs 0 0 Q (F0 m 0 ls []) by rw [eH] at hgo; exact hgo
  clear eH eL
  refine lv_aload_n hx hb dX4_image_0 rfl (lv_at hl 0 rfl) ?_
  refine k_get (v := .ref (ad 1)) F hK hH 0 inX4_image_X4 0 mbX4_image_f9 dX4_image_1 rfl rfl (by decide) rfl ?_
  refine lv_aload_n hx hb dX4_image_4 rfl (lv_at hl 0 rfl) ?_
  refine k_get (v := .ref (ad 3)) F hK hH 0 inX4_image_X4 2 mbX4_image_f16 dX4_image_5 rfl rfl (by decide) rfl ?_
  obtain ⟨x1, hcl, hf⟩ := wp_b hf
  refine k_Sv F hK hH hA hl.1 ⟨Nat.zero_le _, Nat.zero_le _⟩ [1, 3] [.ref (ad 1), .ref (ad 3)] [] (ctX4_copies (ad 1) (ad 3) xs xi hcl) (va_cwS 2 hts gX4_image_X4_copies rfl rfl rfl hdSX4_copies ⟨Nat.le_of_ble_eq_true rfl, Nat.le_of_ble_eq_true rfl⟩) dX4_image_8 rfl rfl (Nat.le_of_ble_eq_true rfl) rfl rfl (by decide) (fun H locs hH => ?_)
  have hH : Hs D A s.heap (wMd cI ad xs xm x1 xw xh xl xr xe xn xo xp xu xd) H locs := hH
  refine lv_aload_n hx hb dX4_image_11 rfl (lv_at hl 0 rfl) ?_
  refine lv_iconst (v := 1) hx hb dX4_image_12 (by decide) ?_
  refine k_put (v := .int 1) F hK hH 0 inX4_image_X4 tyX4 tyX4_ok nmX4 4 mbX4_image_f202 dX4_image_13 rfl rfl (by decide) rfl rfl rfl (Nat.le_of_ble_eq_true rfl) (fun H locs hH => ?_)
  have hH : Hs D A s.heap (wMd cI ad xs xm x1 xw 1 xl xr xe xn xo xp xu xd) H locs := hH
  refine lv_aload_n hx hb dX4_image_16 rfl (lv_at hl 0 rfl) ?_
  refine k_get (v := .ref (ad 1)) F hK hH 0 inX4_image_X4 0 mbX4_image_f9 dX4_image_17 rfl rfl (by decide) rfl ?_
  refine lv_iconst (v := 1) hx hb dX4_image_20 (by decide) ?_
  refine k_iald (f := xs) (n := 53) F hK hH 1 dX4_image_21 (by decide) rfl ?_
  have hrs := wp_s hf
  subst hrs
  exact RET H locs ls 22 dX4_image_22 rfl hH

def fX4_on (xs : (Nat → Int32)) (xi : (Nat → Int32)) (xh : Int32) (xe : (Nat → Int32)) : Option (Int32 × (Nat → Int32) × (Nat → Int32)) :=
  if xh = 0 then
    Option.bind (fX4_no (-3) xe) fun x2 =>
    some (x2.1, xs, x2.2)
  else
    Option.bind (fX4_copies xi xs) fun x1 =>
    some (x1 (Int32.toNatClampNeg 1), x1, xe)

def rmX4_on : Room := { frames := 1, cells := 0, slots := 0, locals := 22 }
theorem mbX4_on_f202 : Cond.fieldLink RX4 202 (TX4 4).1 (TX4 4).2.1 (TX4 4).2.2.1 ∈ wsX4_on := by decide +kernel
theorem inX4_on_X4 : ∀ w ∈ wsX40, w ∈ wsX4_on := by decide +kernel
theorem mbX4_on_f16 : Cond.fieldLink RX4 16 (TX4 2).1 (TX4 2).2.1 (TX4 2).2.2.1 ∈ wsX4_on := by decide +kernel
theorem mbX4_on_f9 : Cond.fieldLink RX4 9 (TX4 0).1 (TX4 0).2.1 (TX4 0).2.2.1 ∈ wsX4_on := by decide +kernel
theorem hdVX4_on : yX4_on.cls = RX4 ∧ yX4_on.cls ≠ "java/lang/invoke/MethodHandle" ∧ yX4_on.cls ≠ "java/lang/invoke/VarHandle" ∧ (parseMethodDescriptor yX4_on.desc).map (fun d => d.parameters.length) = some 0 := by decide +kernel
set_option maxHeartbeats 4000000 in
set_option maxRecDepth 100000 in
theorem ctX4_on {l : Launch} {D : va_G} {cI cJ cQ : ClassId} (ad : Nat → Nat) (xs : (Nat → Int32)) (xm : (Nat → Int32)) (xi : (Nat → Int32)) (xw : (Nat → Int32)) (xh : Int32) (xl : (Nat → Int32)) (xr : (Nat → Int32)) (xe : (Nat → Int32)) (xn : Int32) (xo : Int32) (xp : Int32) (xu : (Nat → Int32)) (xd : Int32)  {res : Int32 × (Nat → Int32) × (Nat → Int32)} (h : fX4_on xs xi xh xe = some res) : CtI l D cI cJ cQ yX4_on wsX4_on rmX4_on [.ref (ad 0)] (wMd cI ad xs xm xi xw xh xl xr xe xn xo xp xu xd) res.1 (wMd cI ad res.2.1 xm xi xw xh xl xr res.2.2 xn xo xp xu xd) := by
  refine ctI_of .int (cc := cX4_on) (maxL := 1) (by decide) rfl (Nat.le_of_ble_eq_true rfl) ?_
  intro p e s m args below meth c A Q ls F hK hA RET hH hl
  obtain ⟨hx, hb, hml, hown, hts⟩ := id F
  have hl : lv_has ls 1 [(0, .ref (ad 0))] := hl
  have hf : wpO (fX4_on xs xi xh xe) (fun v => v = res) := ⟨_, h, rfl⟩
  obtain ⟨H, eH⟩ : ∃ H, H = s.heap := ⟨_, rfl⟩
  obtain ⟨locs, eL⟩ : ∃ locs : List Loc, locs = [] := ⟨_, rfl⟩
  have hH : Hs D A s.heap (wMd cI ad xs xm xi xw xh xl xr xe xn xo xp xu xd) H locs := by rw [eH, eL]; exact hH
  rw [← eL]
  suffices hgo : W p l e rmX4_on s m args below meth c H locs 0 0 Q (F0 m 0 ls []) by rw [eH] at hgo; exact hgo
  clear eH eL
  refine lv_aload_n hx hb dX4_on_0 rfl (lv_at hl 0 rfl) ?_
  refine k_get (v := .int xh) F hK hH 0 inX4_on_X4 4 mbX4_on_f202 dX4_on_1 rfl rfl (by decide) rfl ?_
  refine lv_if_ne (tgt := 14) hx hb dX4_on_4 (by decide) (fun hc => ?_) (fun hc => ?_)
  · have hf := wp_f hc hf
    refine lv_aload_n hx hb dX4_on_14 rfl (lv_at hl 0 rfl) ?_
    refine k_get (v := .ref (ad 3)) F hK hH 0 inX4_on_X4 2 mbX4_on_f16 dX4_on_15 rfl rfl (by decide) rfl ?_
    refine lv_aload_n hx hb dX4_on_18 rfl (lv_at hl 0 rfl) ?_
    refine k_get (v := .ref (ad 1)) F hK hH 0 inX4_on_X4 0 mbX4_on_f9 dX4_on_19 rfl rfl (by decide) rfl ?_
    obtain ⟨x1, hcl, hf⟩ := wp_b hf
    refine k_Sv F hK hH hA hl.1 ⟨Nat.zero_le _, Nat.zero_le _⟩ [3, 1] [.ref (ad 3), .ref (ad 1)] [] (ctX4_copies (ad 3) (ad 1) xi xs hcl) (va_cwS 2 hts gX4_on_X4_copies rfl rfl rfl hdSX4_copies ⟨Nat.le_of_ble_eq_true rfl, Nat.le_of_ble_eq_true rfl⟩) dX4_on_22 rfl rfl (Nat.le_of_ble_eq_true rfl) rfl rfl (by decide) (fun H locs hH => ?_)
    have hH : Hs D A s.heap (wMd cI ad x1 xm xi xw xh xl xr xe xn xo xp xu xd) H locs := hH
    refine lv_aload_n hx hb dX4_on_25 rfl (lv_at hl 0 rfl) ?_
    refine k_get (v := .ref (ad 1)) F hK hH 0 inX4_on_X4 0 mbX4_on_f9 dX4_on_26 rfl rfl (by decide) rfl ?_
    refine lv_iconst (v := 1) hx hb dX4_on_29 (by decide) ?_
    refine k_iald (f := x1) (n := 53) F hK hH 1 dX4_on_30 (by decide) rfl ?_
    have hrs := wp_s hf
    subst hrs
    exact RET H locs ls 31 dX4_on_31 rfl hH
  · have hf := wp_t hc hf
    refine lv_aload_n hx hb dX4_on_7 rfl (lv_at hl 0 rfl) ?_
    refine lv_bipush (v := (-3)) hx hb dX4_on_8 (by decide) ?_
    obtain ⟨x2, hcl, hf⟩ := wp_b hf
    refine k_Vi0 F hK hH hA hl.1 ⟨Nat.zero_le _, Nat.zero_le _⟩ [.int (-3)] [] (ctX4_no ad xs xm xi xw xh xl xr xe xn xo xp xu xd (-3) hcl) (cwV 1 hts gX4_on_X4_no rfl rfl rfl hdVX4_no ⟨Nat.le_of_ble_eq_true rfl, Nat.le_of_ble_eq_true rfl⟩) dX4_on_10 0 rfl rfl rfl rfl rfl (Nat.le_of_ble_eq_true rfl) rfl (fun H locs hH => ?_)
    have hH : Hs D A s.heap (wMd cI ad xs xm xi xw xh xl xr x2.2 xn xo xp xu xd) H locs := hH
    refine W.eq (g2 := F0 m 13 ls [.int x2.1]) rfl ?_
    have hrs := wp_s hf
    subst hrs
    exact RET H locs ls 13 dX4_on_13 rfl hH

def bX4_count_86 (xs : (Nat → Int32)) : (Int32 × Int32) → Option ((Int32 × Int32) ⊕ (Int32)) := fun ((t3, t4) : Int32 × Int32) =>
  if (6 : Int32) ≤ t4 then
    some (.inr t3)
  else
    if ob (26 + t4) 53 then none else
    some (.inl (t3 + (xs (Int32.toNatClampNeg (26 + t4))), t4 + 1))

def fX4_count (v1 : Int32) (xs : (Nat → Int32)) (xe : (Nat → Int32)) (xn : Int32) (xo : Int32) : Option (Int32) :=
  Option.bind (fX4_isIn v1 11 16) fun x1 =>
  if x1 = 0 then
    if v1 = 0 then
      if ob v1 53 then none else
      some (xs (Int32.toNatClampNeg v1))
    else
      if v1 = 1 then
        if ob v1 53 then none else
        some (xs (Int32.toNatClampNeg v1))
      else
        if v1 = 2 then
          if ob v1 53 then none else
          some (xs (Int32.toNatClampNeg v1))
        else
          if v1 = 3 then
            if ob v1 53 then none else
            some (xs (Int32.toNatClampNeg v1))
          else
            if v1 = 4 then
              Option.bind (fX4_allHeights xs) fun x2 =>
              some x2
            else
              if v1 = 5 then
                Option.bind (lp (bX4_count_86 xs) fu (0, 0)) fun (t5 : Int32) =>
                some t5
              else
                if v1 = 6 then
                  some xo
                else
                  if v1 = 7 then
                    some xn
                  else
                    some (-9)
  else
    if ob (v1 - 10) 7 then none else
    some (xe (Int32.toNatClampNeg (v1 - 10)))

def rmX4_count : Room := { frames := 1, cells := 0, slots := 0, locals := 22 }
theorem mbX4_count_f9 : Cond.fieldLink RX4 9 (TX4 0).1 (TX4 0).2.1 (TX4 0).2.2.1 ∈ wsX4_count := by decide +kernel
theorem inX4_count_X4 : ∀ w ∈ wsX40, w ∈ wsX4_count := by decide +kernel
theorem mbX4_count_f190 : Cond.fieldLink RX4 190 (TX4 9).1 (TX4 9).2.1 (TX4 9).2.2.1 ∈ wsX4_count := by decide +kernel
theorem mbX4_count_f80 : Cond.fieldLink RX4 80 (TX4 8).1 (TX4 8).2.1 (TX4 8).2.2.1 ∈ wsX4_count := by decide +kernel
theorem mbX4_count_f28 : Cond.fieldLink RX4 28 (TX4 7).1 (TX4 7).2.1 (TX4 7).2.2.1 ∈ wsX4_count := by decide +kernel
theorem hdVX4_count : yX4_count.cls = RX4 ∧ yX4_count.cls ≠ "java/lang/invoke/MethodHandle" ∧ yX4_count.cls ≠ "java/lang/invoke/VarHandle" ∧ (parseMethodDescriptor yX4_count.desc).map (fun d => d.parameters.length) = some 1 := by decide +kernel
set_option maxHeartbeats 4000000 in
set_option maxRecDepth 100000 in
theorem ctX4_count {l : Launch} {D : va_G} {cI cJ cQ : ClassId} (ad : Nat → Nat) (xs : (Nat → Int32)) (xm : (Nat → Int32)) (xi : (Nat → Int32)) (xw : (Nat → Int32)) (xh : Int32) (xl : (Nat → Int32)) (xr : (Nat → Int32)) (xe : (Nat → Int32)) (xn : Int32) (xo : Int32) (xp : Int32) (xu : (Nat → Int32)) (xd : Int32) (v1 : Int32) {res : Int32} (h : fX4_count v1 xs xe xn xo = some res) : CtI l D cI cJ cQ yX4_count wsX4_count rmX4_count [.ref (ad 0), .int v1] (wMd cI ad xs xm xi xw xh xl xr xe xn xo xp xu xd) res (wMd cI ad xs xm xi xw xh xl xr xe xn xo xp xu xd) := by
  refine ctI_of .int (cc := cX4_count) (maxL := 4) (by decide) rfl (Nat.le_of_ble_eq_true rfl) ?_
  intro p e s m args below meth c A Q ls F hK hA RET hH hl
  obtain ⟨hx, hb, hml, hown, hts⟩ := id F
  have hl : lv_has ls 4 [(0, .ref (ad 0)), (1, .int v1)] := hl
  have hf : wpO (fX4_count v1 xs xe xn xo) (fun v => v = res) := ⟨_, h, rfl⟩
  obtain ⟨H, eH⟩ : ∃ H, H = s.heap := ⟨_, rfl⟩
  obtain ⟨locs, eL⟩ : ∃ locs : List Loc, locs = [] := ⟨_, rfl⟩
  have hH : Hs D A s.heap (wMd cI ad xs xm xi xw xh xl xr xe xn xo xp xu xd) H locs := by rw [eH, eL]; exact hH
  rw [← eL]
  suffices hgo : W p l e rmX4_count s m args below meth c H locs 0 0 Q (F0 m 0 ls []) by rw [eH] at hgo; exact hgo
  clear eH eL
  refine lv_iload_n hx hb dX4_count_0 rfl (lv_at hl 1 rfl) ?_
  refine lv_bipush (v := 11) hx hb dX4_count_1 (by decide) ?_
  refine lv_bipush (v := 16) hx hb dX4_count_3 (by decide) ?_
  obtain ⟨x1, hcl, hf⟩ := wp_b hf
  refine k_Si F hK hH hA hl.1 ⟨Nat.zero_le _, Nat.zero_le _⟩ [] [.int v1, .int 11, .int 16] [] (ctX4_isIn v1 11 16 hcl) (va_cwS 3 hts gX4_count_X4_isIn rfl rfl rfl hdSX4_isIn ⟨Nat.le_of_ble_eq_true rfl, Nat.le_of_ble_eq_true rfl⟩) dX4_count_5 rfl rfl (Nat.le_of_ble_eq_true rfl) rfl rfl (by decide) (fun H locs hH => ?_)
  have hH : Hs D A s.heap (wMd cI ad xs xm xi xw xh xl xr xe xn xo xp xu xd) H locs := hH
  refine lv_if_eq (tgt := 21) hx hb dX4_count_8 (by decide) (fun hc => ?_) (fun hc => ?_)
  · have hf := wp_t hc hf
    refine lv_iconst (v := 0) hx hb dX4_count_21 (by decide) ?_
    refine lv_istore_n (lv' := [(2, .int 0), (0, .ref (ad 0)), (1, .int v1)]) hx hb dX4_count_22 rfl hl (by decide) rfl (fun ls hl => ?_)
    refine lv_iload_n hx hb dX4_count_23 rfl (lv_at hl 2 rfl) ?_
    by_cases hc0 : v1 = 0
    · have hf := wp_t hc0 hf
      refine lv_tableIn (tgt := 72) hx hb dX4_count_24 (by rw [hc0]; decide) (by rw [hc0]; decide) (by rw [hc0]; try rfl) (by decide) ?_
      refine lv_aload_n hx hb dX4_count_72 rfl (lv_at hl 1 rfl) ?_
      refine k_get (v := .ref (ad 1)) F hK hH 0 inX4_count_X4 0 mbX4_count_f9 dX4_count_73 rfl rfl (by decide) rfl ?_
      refine lv_iload_n hx hb dX4_count_76 rfl (lv_at hl 2 rfl) ?_
      obtain ⟨hi, hf⟩ := wp_n hf
      refine k_iald (f := xs) (n := 53) F hK hH 1 dX4_count_77 hi rfl ?_
      have hrs := wp_s hf
      subst hrs
      exact RET H locs ls 78 dX4_count_78 rfl hH
    · have hf := wp_f hc0 hf
      by_cases hc1 : v1 = 1
      · have hf := wp_t hc1 hf
        refine lv_tableIn (tgt := 72) hx hb dX4_count_24 (by rw [hc1]; decide) (by rw [hc1]; decide) (by rw [hc1]; try rfl) (by decide) ?_
        refine lv_aload_n hx hb dX4_count_72 rfl (lv_at hl 1 rfl) ?_
        refine k_get (v := .ref (ad 1)) F hK hH 0 inX4_count_X4 0 mbX4_count_f9 dX4_count_73 rfl rfl (by decide) rfl ?_
        refine lv_iload_n hx hb dX4_count_76 rfl (lv_at hl 2 rfl) ?_
        obtain ⟨hi, hf⟩ := wp_n hf
        refine k_iald (f := xs) (n := 53) F hK hH 1 dX4_count_77 hi rfl ?_
        have hrs := wp_s hf
        subst hrs
        exact RET H locs ls 78 dX4_count_78 rfl hH
      · have hf := wp_f hc1 hf
        by_cases hc2 : v1 = 2
        · have hf := wp_t hc2 hf
          refine lv_tableIn (tgt := 72) hx hb dX4_count_24 (by rw [hc2]; decide) (by rw [hc2]; decide) (by rw [hc2]; try rfl) (by decide) ?_
          refine lv_aload_n hx hb dX4_count_72 rfl (lv_at hl 1 rfl) ?_
          refine k_get (v := .ref (ad 1)) F hK hH 0 inX4_count_X4 0 mbX4_count_f9 dX4_count_73 rfl rfl (by decide) rfl ?_
          refine lv_iload_n hx hb dX4_count_76 rfl (lv_at hl 2 rfl) ?_
          obtain ⟨hi, hf⟩ := wp_n hf
          refine k_iald (f := xs) (n := 53) F hK hH 1 dX4_count_77 hi rfl ?_
          have hrs := wp_s hf
          subst hrs
          exact RET H locs ls 78 dX4_count_78 rfl hH
        · have hf := wp_f hc2 hf
          by_cases hc3 : v1 = 3
          · have hf := wp_t hc3 hf
            refine lv_tableIn (tgt := 72) hx hb dX4_count_24 (by rw [hc3]; decide) (by rw [hc3]; decide) (by rw [hc3]; try rfl) (by decide) ?_
            refine lv_aload_n hx hb dX4_count_72 rfl (lv_at hl 1 rfl) ?_
            refine k_get (v := .ref (ad 1)) F hK hH 0 inX4_count_X4 0 mbX4_count_f9 dX4_count_73 rfl rfl (by decide) rfl ?_
            refine lv_iload_n hx hb dX4_count_76 rfl (lv_at hl 2 rfl) ?_
            obtain ⟨hi, hf⟩ := wp_n hf
            refine k_iald (f := xs) (n := 53) F hK hH 1 dX4_count_77 hi rfl ?_
            have hrs := wp_s hf
            subst hrs
            exact RET H locs ls 78 dX4_count_78 rfl hH
          · have hf := wp_f hc3 hf
            by_cases hc4 : v1 = 4
            · have hf := wp_t hc4 hf
              refine lv_tableIn (tgt := 79) hx hb dX4_count_24 (by rw [hc4]; decide) (by rw [hc4]; decide) (by rw [hc4]; try rfl) (by decide) ?_
              refine lv_aload_n hx hb dX4_count_79 rfl (lv_at hl 1 rfl) ?_
              obtain ⟨x2, hcl, hf⟩ := wp_b hf
              refine k_Vi0 F hK hH hA hl.1 ⟨Nat.zero_le _, Nat.zero_le _⟩ [] [] (ctX4_allHeights ad xs xm xi xw xh xl xr xe xn xo xp xu xd hcl) (cwV 0 hts gX4_count_X4_allHeights rfl rfl rfl hdVX4_allHeights ⟨Nat.le_of_ble_eq_true rfl, Nat.le_of_ble_eq_true rfl⟩) dX4_count_80 0 rfl rfl rfl rfl rfl (Nat.le_of_ble_eq_true rfl) rfl (fun H locs hH => ?_)
              have hH : Hs D A s.heap (wMd cI ad xs xm xi xw xh xl xr xe xn xo xp xu xd) H locs := hH
              have hrs := wp_s hf
              subst hrs
              exact RET H locs ls 83 dX4_count_83 rfl hH
            · have hf := wp_f hc4 hf
              by_cases hc5 : v1 = 5
              · have hf := wp_t hc5 hf
                refine lv_tableIn (tgt := 84) hx hb dX4_count_24 (by rw [hc5]; decide) (by rw [hc5]; decide) (by rw [hc5]; try rfl) (by decide) ?_
                refine lv_iconst (v := 0) hx hb dX4_count_84 (by decide) ?_
                refine lv_istore_n (lv' := [(3, .int 0), (2, .int 0), (0, .ref (ad 0)), (1, .int v1)]) hx hb dX4_count_85 rfl hl (by decide) rfl (fun ls hl => ?_)
                have LP : ∀ (Φ : (Int32) → Prop), (∀ (t5 : Int32) (H : Heap) (locs : List Loc) (ls : Array Slot), Φ (t5) → Hs D A s.heap (wMd cI ad xs xm xi xw xh xl xr xe xn xo xp xu xd) H locs → lv_has ls 4 [(2, .int t5)] → W p l e rmX4_count s m args below meth c H locs 0 0 Q (F0 m 110 ls [])) → ∀ (n : Nat) (t3 : Int32) (t4 : Int32) (H : Heap) (locs : List Loc) (ls : Array Slot), wpO (lp (bX4_count_86 xs) n (t3, t4)) Φ → Hs D A s.heap (wMd cI ad xs xm xi xw xh xl xr xe xn xo xp xu xd) H locs → lv_has ls 4 [(0, .ref (ad 0)), (2, .int t3), (3, .int t4)] → W p l e rmX4_count s m args below meth c H locs 0 0 Q (F0 m 86 ls []) := by
                  intro Φ EX n
                  induction n with
                  | zero =>
                    intro t3 t4 H locs ls hf hH hl
                    exact (wp_l0 hf).elim
                  | succ n ih =>
                    intro t3 t4 H locs ls hf hH hl
                    have hf := wp_l hf
                    refine lv_iload_n hx hb dX4_count_86 rfl (lv_at hl 2 rfl) ?_
                    refine lv_bipush (v := 6) hx hb dX4_count_87 (by decide) ?_
                    refine lv_icmp_ge (tgt := 110) hx hb dX4_count_89 (by decide) (fun hc => ?_) (fun hc => ?_)
                    · have hf := wp_t hc hf
                      have hw := wp_out hf
                      exact EX _ _ _ _ hw hH (lv_sub hl [1] rfl)
                    · have hf := wp_f hc hf
                      refine lv_iload_n hx hb dX4_count_92 rfl (lv_at hl 1 rfl) ?_
                      refine lv_aload_n hx hb dX4_count_93 rfl (lv_at hl 0 rfl) ?_
                      refine k_get (v := .ref (ad 1)) F hK hH 0 inX4_count_X4 0 mbX4_count_f9 dX4_count_94 rfl rfl (by decide) rfl ?_
                      refine lv_bipush (v := 26) hx hb dX4_count_97 (by decide) ?_
                      refine lv_iload_n hx hb dX4_count_99 rfl (lv_at hl 2 rfl) ?_
                      refine lv_iadd hx hb dX4_count_100 ?_
                      obtain ⟨hi, hf⟩ := wp_n hf
                      refine k_iald (f := xs) (n := 53) F hK hH 1 dX4_count_101 hi rfl ?_
                      refine lv_iadd hx hb dX4_count_102 ?_
                      refine lv_istore_n (lv' := [(2, .int (t3 + (xs (Int32.toNatClampNeg (26 + t4))))), (0, .ref (ad 0)), (3, .int t4)]) hx hb dX4_count_103 rfl hl (by decide) rfl (fun ls hl => ?_)
                      refine lv_iinc (v := t4 + 1) (lv' := [(3, .int (t4 + 1)), (2, .int (t3 + (xs (Int32.toNatClampNeg (26 + t4))))), (0, .ref (ad 0))]) hx hb dX4_count_104 hl (k := 2) rfl rfl (by decide) rfl (fun ls hl => ?_)
                      refine lv_goto (tgt := 86) hx hb dX4_count_107 (by decide) ?_
                      have hw := wp_in hf
                      exact ih _ _ _ _ _ hw hH (lv_sub hl [2, 1, 0] rfl)
                refine LP _ (fun t5 H locs ls hf hH hl => ?_) fu _ _ _ _ _ (wp_bb hf) hH (lv_sub hl [2, 1, 0] rfl)
                refine lv_iload_n hx hb dX4_count_110 rfl (lv_at hl 0 rfl) ?_
                have hrs := wp_s hf
                subst hrs
                exact RET H locs ls 111 dX4_count_111 rfl hH
              · have hf := wp_f hc5 hf
                by_cases hc6 : v1 = 6
                · have hf := wp_t hc6 hf
                  refine lv_tableIn (tgt := 112) hx hb dX4_count_24 (by rw [hc6]; decide) (by rw [hc6]; decide) (by rw [hc6]; try rfl) (by decide) ?_
                  refine lv_aload_n hx hb dX4_count_112 rfl (lv_at hl 1 rfl) ?_
                  refine k_get (v := .int xo) F hK hH 0 inX4_count_X4 9 mbX4_count_f190 dX4_count_113 rfl rfl (by decide) rfl ?_
                  have hrs := wp_s hf
                  subst hrs
                  exact RET H locs ls 116 dX4_count_116 rfl hH
                · have hf := wp_f hc6 hf
                  by_cases hc7 : v1 = 7
                  · have hf := wp_t hc7 hf
                    refine lv_tableIn (tgt := 117) hx hb dX4_count_24 (by rw [hc7]; decide) (by rw [hc7]; decide) (by rw [hc7]; try rfl) (by decide) ?_
                    refine lv_aload_n hx hb dX4_count_117 rfl (lv_at hl 1 rfl) ?_
                    refine k_get (v := .int xn) F hK hH 0 inX4_count_X4 8 mbX4_count_f80 dX4_count_118 rfl rfl (by decide) rfl ?_
                    have hrs := wp_s hf
                    subst hrs
                    exact RET H locs ls 121 dX4_count_121 rfl hH
                  · have hf := wp_f hc7 hf
                    have hs0 := sw_ne hc0 (show (0 : Int32).toInt = 0 from rfl)
                    have hs1 := sw_ne hc1 (show (1 : Int32).toInt = 1 from rfl)
                    have hs2 := sw_ne hc2 (show (2 : Int32).toInt = 2 from rfl)
                    have hs3 := sw_ne hc3 (show (3 : Int32).toInt = 3 from rfl)
                    have hs4 := sw_ne hc4 (show (4 : Int32).toInt = 4 from rfl)
                    have hs5 := sw_ne hc5 (show (5 : Int32).toInt = 5 from rfl)
                    have hs6 := sw_ne hc6 (show (6 : Int32).toInt = 6 from rfl)
                    have hs7 := sw_ne hc7 (show (7 : Int32).toInt = 7 from rfl)
                    refine lv_tableOut (tgt := 122) hx hb dX4_count_24 (by omega) (by decide) ?_
                    refine lv_bipush (v := (-9)) hx hb dX4_count_122 (by decide) ?_
                    have hrs := wp_s hf
                    subst hrs
                    exact RET H locs ls 124 dX4_count_124 rfl hH
  · have hf := wp_f hc hf
    refine lv_aload_n hx hb dX4_count_11 rfl (lv_at hl 0 rfl) ?_
    refine k_get (v := .ref (ad 7)) F hK hH 0 inX4_count_X4 7 mbX4_count_f28 dX4_count_12 rfl rfl (by decide) rfl ?_
    refine lv_iload_n hx hb dX4_count_15 rfl (lv_at hl 1 rfl) ?_
    refine lv_bipush (v := 10) hx hb dX4_count_16 (by decide) ?_
    refine lv_isub hx hb dX4_count_18 ?_
    obtain ⟨hi, hf⟩ := wp_n hf
    refine k_iald (f := xe) (n := 7) F hK hH 7 dX4_count_19 hi rfl ?_
    have hrs := wp_s hf
    subst hrs
    exact RET H locs ls 20 dX4_count_20 rfl hH

