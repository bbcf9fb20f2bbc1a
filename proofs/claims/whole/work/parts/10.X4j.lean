def bX4_best_48 (v1 : Int32) (v2 : Int32) (xs : (Nat → Int32)) : (Int32 × Int32 × (Nat → Int32)) → Option ((Int32 × Int32 × (Nat → Int32)) ⊕ (Int32 × (Nat → Int32))) := fun ((t5, t6, t7) : Int32 × Int32 × (Nat → Int32)) =>
  if (10 : Int32) ≤ t6 then
    some (.inr (t5, t7))
  else
    Option.bind (fX4_timesOf t6 v1 v2 xs t7) fun x10 =>
    Option.bind (fX4_timesOf t5 v1 v2 xs x10.2) fun x11 =>
    if x10.1 ≤ x11.1 then
      some (.inl (t5, t6 + 1, x11.2))
    else
      some (.inl (t6, t6 + 1, x11.2))

def fX4_best (v1 : Int32) (v2 : Int32) (v3 : Int32) (xs : (Nat → Int32)) (xm : (Nat → Int32)) (xe : (Nat → Int32)) : Option (Int32 × (Nat → Int32) × (Nat → Int32)) :=
  Option.bind (fX4_isVerdict v1) fun x1 =>
  Option.bind (if x1 = 0 then
      some (-2)
    else
      Option.bind (fX4_isIn v3 0 1) fun x3 =>
      if x3 = 0 then
        some (-2)
      else
        Option.bind (fX4_wrongBy v2 0 30) fun x4 =>
        some x4) fun (t2 : Int32) =>
  if t2 = 0 then
    Option.bind (lp (bX4_best_48 v1 v2 xs) fu (0, 0, xm)) fun ((t8, t9) : Int32 × (Nat → Int32)) =>
    if v3 = 0 then
      some (t8, t9, xe)
    else
      Option.bind (fX4_timesOf t8 v1 v2 xs t9) fun x12 =>
      some (x12.1, x12.2, xe)
  else
    Option.bind (fX4_no t2 xe) fun x13 =>
    some (x13.1, xm, x13.2)

def rmX4_best : Room := { frames := 6, cells := 0, slots := 0, locals := 138 }
theorem hdVX4_best : yX4_best.cls = RX4 ∧ yX4_best.cls ≠ "java/lang/invoke/MethodHandle" ∧ yX4_best.cls ≠ "java/lang/invoke/VarHandle" ∧ (parseMethodDescriptor yX4_best.desc).map (fun d => d.parameters.length) = some 3 := by decide +kernel
set_option maxHeartbeats 4000000 in
set_option maxRecDepth 100000 in
theorem ctX4_best {l : Launch} {D : va_G} {cI cJ cQ : ClassId} (ad : Nat → Nat) (xs : (Nat → Int32)) (xm : (Nat → Int32)) (xi : (Nat → Int32)) (xw : (Nat → Int32)) (xh : Int32) (xl : (Nat → Int32)) (xr : (Nat → Int32)) (xe : (Nat → Int32)) (xn : Int32) (xo : Int32) (xp : Int32) (xu : (Nat → Int32)) (xd : Int32) (v1 : Int32) (v2 : Int32) (v3 : Int32) {res : Int32 × (Nat → Int32) × (Nat → Int32)} (h : fX4_best v1 v2 v3 xs xm xe = some res) : CtI l D cI cJ cQ yX4_best wsX4_best rmX4_best [.ref (ad 0), .int v1, .int v2, .int v3] (wMd cI ad xs xm xi xw xh xl xr xe xn xo xp xu xd) res.1 (wMd cI ad xs res.2.1 xi xw xh xl xr res.2.2 xn xo xp xu xd) := by
  refine ctI_of .int (cc := cX4_best) (maxL := 7) (by decide) rfl (Nat.le_of_ble_eq_true rfl) ?_
  intro p e s m args below meth c A Q ls F hK hA RET hH hl
  obtain ⟨hx, hb, hml, hown, hts⟩ := id F
  have hl : lv_has ls 7 [(0, .ref (ad 0)), (1, .int v1), (2, .int v2), (3, .int v3)] := hl
  have hf : wpO (fX4_best v1 v2 v3 xs xm xe) (fun v => v = res) := ⟨_, h, rfl⟩
  obtain ⟨H, eH⟩ : ∃ H, H = s.heap := ⟨_, rfl⟩
  obtain ⟨locs, eL⟩ : ∃ locs : List Loc, locs = [] := ⟨_, rfl⟩
  have hH : Hs D A s.heap (wMd cI ad xs xm xi xw xh xl xr xe xn xo xp xu xd) H locs := by rw [eH, eL]; exact hH
  rw [← eL]
  suffices hgo : W p l e rmX4_best s m args below meth c H locs 0 0 Q (F0 m 0 ls []) by rw [eH] at hgo; exact hgo
  clear eH eL
  refine lv_iload_n hx hb dX4_best_0 rfl (lv_at hl 1 rfl) ?_
  obtain ⟨x1, hcl, hf⟩ := wp_b hf
  refine k_Si F hK hH hA hl.1 ⟨Nat.zero_le _, Nat.zero_le _⟩ [] [.int v1] [] (ctX4_isVerdict v1 hcl) (va_cwS 1 hts gX4_best_X4_isVerdict rfl rfl rfl hdSX4_isVerdict ⟨Nat.le_of_ble_eq_true rfl, Nat.le_of_ble_eq_true rfl⟩) dX4_best_1 rfl rfl (Nat.le_of_ble_eq_true rfl) rfl rfl (by decide) (fun H locs hH => ?_)
  have hH : Hs D A s.heap (wMd cI ad xs xm xi xw xh xl xr xe xn xo xp xu xd) H locs := hH
  refine join_ (α := Int32) (fun Φ => ∀ (t2 : Int32) (H : Heap) (locs : List Loc) (ls : Array Slot), Φ t2 → Hs D A s.heap (wMd cI ad xs xm xi xw xh xl xr xe xn xo xp xu xd) H locs → lv_has ls 7 [(0, .ref (ad 0)), (1, .int v1), (2, .int v2), (3, .int v3)] → W p l e rmX4_best s m args below meth c H locs 0 0 Q (F0 m 28 ls [.int t2])) (wp_bb hf) ?_ ?_
  · intro t2 H locs ls hf hH hl
    refine lv_istore (lv' := [(4, .int t2), (0, .ref (ad 0)), (1, .int v1), (2, .int v2), (3, .int v3)]) hx hb dX4_best_28 hl (by decide) rfl (fun ls hl => ?_)
    refine lv_iload hx hb dX4_best_30 (lv_at hl 0 rfl) ?_
    refine lv_if_eq (tgt := 42) hx hb dX4_best_32 (by decide) (fun hc => ?_) (fun hc => ?_)
    · have hf := wp_t hc hf
      refine lv_iconst (v := 0) hx hb dX4_best_42 (by decide) ?_
      refine lv_istore (lv' := [(5, .int 0), (4, .int t2), (0, .ref (ad 0)), (1, .int v1), (2, .int v2), (3, .int v3)]) hx hb dX4_best_43 hl (by decide) rfl (fun ls hl => ?_)
      refine lv_iconst (v := 0) hx hb dX4_best_45 (by decide) ?_
      refine lv_istore (lv' := [(6, .int 0), (5, .int 0), (4, .int t2), (0, .ref (ad 0)), (1, .int v1), (2, .int v2), (3, .int v3)]) hx hb dX4_best_46 hl (by decide) rfl (fun ls hl => ?_)
      have LP : ∀ (Φ : (Int32 × (Nat → Int32)) → Prop), (∀ (t8 : Int32) (t9 : (Nat → Int32)) (H : Heap) (locs : List Loc) (ls : Array Slot), Φ ((t8, t9)) → Hs D A s.heap (wMd cI ad xs t9 xi xw xh xl xr xe xn xo xp xu xd) H locs → lv_has ls 7 [(0, .ref (ad 0)), (1, .int v1), (2, .int v2), (3, .int v3), (5, .int t8)] → W p l e rmX4_best s m args below meth c H locs 0 0 Q (F0 m 84 ls [])) → ∀ (n : Nat) (t5 : Int32) (t6 : Int32) (t7 : (Nat → Int32)) (H : Heap) (locs : List Loc) (ls : Array Slot), wpO (lp (bX4_best_48 v1 v2 xs) n (t5, t6, t7)) Φ → Hs D A s.heap (wMd cI ad xs t7 xi xw xh xl xr xe xn xo xp xu xd) H locs → lv_has ls 7 [(0, .ref (ad 0)), (1, .int v1), (2, .int v2), (3, .int v3), (5, .int t5), (6, .int t6)] → W p l e rmX4_best s m args below meth c H locs 0 0 Q (F0 m 48 ls []) := by
        intro Φ EX n
        induction n with
        | zero =>
          intro t5 t6 t7 H locs ls hf hH hl
          exact (wp_l0 hf).elim
        | succ n ih =>
          intro t5 t6 t7 H locs ls hf hH hl
          have hf := wp_l hf
          refine lv_iload hx hb dX4_best_48 (lv_at hl 5 rfl) ?_
          refine lv_bipush (v := 10) hx hb dX4_best_50 (by decide) ?_
          refine lv_icmp_ge (tgt := 84) hx hb dX4_best_52 (by decide) (fun hc => ?_) (fun hc => ?_)
          · have hf := wp_t hc hf
            have hw := wp_out hf
            exact EX _ _ _ _ _ hw hH (lv_sub hl [0, 1, 2, 3, 4] rfl)
          · have hf := wp_f hc hf
            refine lv_aload_n hx hb dX4_best_55 rfl (lv_at hl 0 rfl) ?_
            refine lv_iload hx hb dX4_best_56 (lv_at hl 5 rfl) ?_
            refine lv_iload_n hx hb dX4_best_58 rfl (lv_at hl 1 rfl) ?_
            refine lv_iload_n hx hb dX4_best_59 rfl (lv_at hl 2 rfl) ?_
            obtain ⟨x10, hcl, hf⟩ := wp_b hf
            refine k_Vi0 F hK hH hA hl.1 ⟨Nat.zero_le _, Nat.zero_le _⟩ [.int t6, .int v1, .int v2] [] (ctX4_timesOf ad xs t7 xi xw xh xl xr xe xn xo xp xu xd t6 v1 v2 hcl) (cwV 3 hts gX4_best_X4_timesOf rfl rfl rfl hdVX4_timesOf ⟨Nat.le_of_ble_eq_true rfl, Nat.le_of_ble_eq_true rfl⟩) dX4_best_60 0 rfl rfl rfl rfl rfl (Nat.le_of_ble_eq_true rfl) rfl (fun H locs hH => ?_)
            have hH : Hs D A s.heap (wMd cI ad xs x10.2 xi xw xh xl xr xe xn xo xp xu xd) H locs := hH
            refine W.eq (g2 := F0 m 63 ls [.int x10.1]) rfl ?_
            refine lv_aload_n hx hb dX4_best_63 rfl (lv_at hl 0 rfl) ?_
            refine lv_iload hx hb dX4_best_64 (lv_at hl 4 rfl) ?_
            refine lv_iload_n hx hb dX4_best_66 rfl (lv_at hl 1 rfl) ?_
            refine lv_iload_n hx hb dX4_best_67 rfl (lv_at hl 2 rfl) ?_
            obtain ⟨x11, hcl, hf⟩ := wp_b hf
            refine k_Vi0 F hK hH hA hl.1 ⟨Nat.zero_le _, Nat.zero_le _⟩ [.int t5, .int v1, .int v2] [.int x10.1] (ctX4_timesOf ad xs x10.2 xi xw xh xl xr xe xn xo xp xu xd t5 v1 v2 hcl) (cwV 3 hts gX4_best_X4_timesOf rfl rfl rfl hdVX4_timesOf ⟨Nat.le_of_ble_eq_true rfl, Nat.le_of_ble_eq_true rfl⟩) dX4_best_68 0 rfl rfl rfl rfl rfl (Nat.le_of_ble_eq_true rfl) rfl (fun H locs hH => ?_)
            have hH : Hs D A s.heap (wMd cI ad xs x11.2 xi xw xh xl xr xe xn xo xp xu xd) H locs := hH
            refine W.eq (g2 := F0 m 71 ls [.int x11.1, .int x10.1]) rfl ?_
            refine lv_icmp_le (tgt := 78) hx hb dX4_best_71 (by decide) (fun hc => ?_) (fun hc => ?_)
            · have hf := wp_t hc hf
              refine lv_iinc (v := t6 + 1) (lv' := [(6, .int (t6 + 1)), (0, .ref (ad 0)), (1, .int v1), (2, .int v2), (3, .int v3), (5, .int t5)]) hx hb dX4_best_78 hl (k := 5) rfl rfl (by decide) rfl (fun ls hl => ?_)
              refine lv_goto (tgt := 48) hx hb dX4_best_81 (by decide) ?_
              have hw := wp_in hf
              exact ih _ _ _ _ _ _ hw hH (lv_sub hl [1, 2, 3, 4, 5, 0] rfl)
            · have hf := wp_f hc hf
              refine lv_iload hx hb dX4_best_74 (lv_at hl 5 rfl) ?_
              refine lv_istore (lv' := [(5, .int t6), (0, .ref (ad 0)), (1, .int v1), (2, .int v2), (3, .int v3), (6, .int t6)]) hx hb dX4_best_76 hl (by decide) rfl (fun ls hl => ?_)
              refine lv_iinc (v := t6 + 1) (lv' := [(6, .int (t6 + 1)), (5, .int t6), (0, .ref (ad 0)), (1, .int v1), (2, .int v2), (3, .int v3)]) hx hb dX4_best_78 hl (k := 5) rfl rfl (by decide) rfl (fun ls hl => ?_)
              refine lv_goto (tgt := 48) hx hb dX4_best_81 (by decide) ?_
              have hw := wp_in hf
              exact ih _ _ _ _ _ _ hw hH (lv_sub hl [2, 3, 4, 5, 1, 0] rfl)
      refine LP _ (fun t8 t9 H locs ls hf hH hl => ?_) fu _ _ _ _ _ _ (wp_bb hf) hH (lv_sub hl [3, 4, 5, 6, 1, 0] rfl)
      refine lv_iload_n hx hb dX4_best_84 rfl (lv_at hl 3 rfl) ?_
      refine lv_if_ne (tgt := 93) hx hb dX4_best_85 (by decide) (fun hc => ?_) (fun hc => ?_)
      · have hf := wp_f hc hf
        refine lv_aload_n hx hb dX4_best_93 rfl (lv_at hl 0 rfl) ?_
        refine lv_iload hx hb dX4_best_94 (lv_at hl 4 rfl) ?_
        refine lv_iload_n hx hb dX4_best_96 rfl (lv_at hl 1 rfl) ?_
        refine lv_iload_n hx hb dX4_best_97 rfl (lv_at hl 2 rfl) ?_
        obtain ⟨x12, hcl, hf⟩ := wp_b hf
        refine k_Vi0 F hK hH hA hl.1 ⟨Nat.zero_le _, Nat.zero_le _⟩ [.int t8, .int v1, .int v2] [] (ctX4_timesOf ad xs t9 xi xw xh xl xr xe xn xo xp xu xd t8 v1 v2 hcl) (cwV 3 hts gX4_best_X4_timesOf rfl rfl rfl hdVX4_timesOf ⟨Nat.le_of_ble_eq_true rfl, Nat.le_of_ble_eq_true rfl⟩) dX4_best_98 0 rfl rfl rfl rfl rfl (Nat.le_of_ble_eq_true rfl) rfl (fun H locs hH => ?_)
        have hH : Hs D A s.heap (wMd cI ad xs x12.2 xi xw xh xl xr xe xn xo xp xu xd) H locs := hH
        refine W.eq (g2 := F0 m 101 ls [.int x12.1]) rfl ?_
        have hrs := wp_s hf
        subst hrs
        exact RET H locs ls 101 dX4_best_101 rfl hH
      · have hf := wp_t hc hf
        refine lv_iload hx hb dX4_best_88 (lv_at hl 4 rfl) ?_
        refine lv_goto (tgt := 101) hx hb dX4_best_90 (by decide) ?_
        have hrs := wp_s hf
        subst hrs
        exact RET H locs ls 101 dX4_best_101 rfl hH
    · have hf := wp_f hc hf
      refine lv_aload_n hx hb dX4_best_35 rfl (lv_at hl 1 rfl) ?_
      refine lv_iload hx hb dX4_best_36 (lv_at hl 0 rfl) ?_
      obtain ⟨x13, hcl, hf⟩ := wp_b hf
      refine k_Vi0 F hK hH hA hl.1 ⟨Nat.zero_le _, Nat.zero_le _⟩ [.int t2] [] (ctX4_no ad xs xm xi xw xh xl xr xe xn xo xp xu xd t2 hcl) (cwV 1 hts gX4_best_X4_no rfl rfl rfl hdVX4_no ⟨Nat.le_of_ble_eq_true rfl, Nat.le_of_ble_eq_true rfl⟩) dX4_best_38 0 rfl rfl rfl rfl rfl (Nat.le_of_ble_eq_true rfl) rfl (fun H locs hH => ?_)
      have hH : Hs D A s.heap (wMd cI ad xs xm xi xw xh xl xr x13.2 xn xo xp xu xd) H locs := hH
      refine W.eq (g2 := F0 m 41 ls [.int x13.1]) rfl ?_
      have hrs := wp_s hf
      subst hrs
      exact RET H locs ls 41 dX4_best_41 rfl hH
  · intro Φ JJ hf
    refine lv_if_eq (tgt := 26) hx hb dX4_best_4 (by decide) (fun hc => ?_) (fun hc => ?_)
    · have hf := wp_t hc hf
      refine lv_bipush (v := (-2)) hx hb dX4_best_26 (by decide) ?_
      have hw := wp_s hf
      exact JJ _ _ _ _ hw hH (lv_sub hl [0, 1, 2, 3] rfl)
    · have hf := wp_f hc hf
      refine lv_iload_n hx hb dX4_best_7 rfl (lv_at hl 3 rfl) ?_
      refine lv_iconst (v := 0) hx hb dX4_best_8 (by decide) ?_
      refine lv_iconst (v := 1) hx hb dX4_best_9 (by decide) ?_
      obtain ⟨x3, hcl, hf⟩ := wp_b hf
      refine k_Si F hK hH hA hl.1 ⟨Nat.zero_le _, Nat.zero_le _⟩ [] [.int v3, .int 0, .int 1] [] (ctX4_isIn v3 0 1 hcl) (va_cwS 3 hts gX4_best_X4_isIn rfl rfl rfl hdSX4_isIn ⟨Nat.le_of_ble_eq_true rfl, Nat.le_of_ble_eq_true rfl⟩) dX4_best_10 rfl rfl (Nat.le_of_ble_eq_true rfl) rfl rfl (by decide) (fun H locs hH => ?_)
      have hH : Hs D A s.heap (wMd cI ad xs xm xi xw xh xl xr xe xn xo xp xu xd) H locs := hH
      refine lv_if_eq (tgt := 26) hx hb dX4_best_13 (by decide) (fun hc => ?_) (fun hc => ?_)
      · have hf := wp_t hc hf
        refine lv_bipush (v := (-2)) hx hb dX4_best_26 (by decide) ?_
        have hw := wp_s hf
        exact JJ _ _ _ _ hw hH (lv_sub hl [0, 1, 2, 3] rfl)
      · have hf := wp_f hc hf
        refine lv_iload_n hx hb dX4_best_16 rfl (lv_at hl 2 rfl) ?_
        refine lv_iconst (v := 0) hx hb dX4_best_17 (by decide) ?_
        refine lv_bipush (v := 30) hx hb dX4_best_18 (by decide) ?_
        obtain ⟨x4, hcl, hf⟩ := wp_b hf
        refine k_Si F hK hH hA hl.1 ⟨Nat.zero_le _, Nat.zero_le _⟩ [] [.int v2, .int 0, .int 30] [] (ctX4_wrongBy v2 0 30 hcl) (va_cwS 3 hts gX4_best_X4_wrongBy rfl rfl rfl hdSX4_wrongBy ⟨Nat.le_of_ble_eq_true rfl, Nat.le_of_ble_eq_true rfl⟩) dX4_best_20 rfl rfl (Nat.le_of_ble_eq_true rfl) rfl rfl (by decide) (fun H locs hH => ?_)
        have hH : Hs D A s.heap (wMd cI ad xs xm xi xw xh xl xr xe xn xo xp xu xd) H locs := hH
        refine lv_goto (tgt := 28) hx hb dX4_best_23 (by decide) ?_
        have hw := wp_s hf
        exact JJ _ _ _ _ hw hH (lv_sub hl [0, 1, 2, 3] rfl)

def bX4_drive_56 (v1 : Int32) (v2 : Int32) (xs : (Nat → Int32)) : (Int32 × Int32 × Int32 × (Nat → Int32)) → Option ((Int32 × Int32 × Int32 × (Nat → Int32)) ⊕ (Int32 × (Nat → Int32))) := fun ((t6, t7, t8, t9) : Int32 × Int32 × Int32 × (Nat → Int32)) =>
  if (16 : Int32) ≤ t8 then
    some (.inr (t7, t9))
  else
    Option.bind (fX4_copies xs t9) fun x12 =>
    Option.bind (fX4_of v1 2) fun x13 =>
    if ob x13 53 then none else
    Option.bind (fX4_branchesIn v2 (upd x12 (Int32.toNatClampNeg x13) t8)) fun x14 =>
    Option.bind (fX4_bits x14) fun x15 =>
    if t6 < x15 then
      some (.inl (x15, t8, t8 + 1, upd x12 (Int32.toNatClampNeg x13) t8))
    else
      some (.inl (t6, t7, t8 + 1, upd x12 (Int32.toNatClampNeg x13) t8))

def fX4_drive (v1 : Int32) (v2 : Int32) (xs : (Nat → Int32)) (xm : (Nat → Int32)) (xe : (Nat → Int32)) : Option (Int32 × (Nat → Int32) × (Nat → Int32)) :=
  Option.bind (fX4_isThing v1 xs) fun x1 =>
  Option.bind (if x1 = 0 then
      some (-1)
    else
      Option.bind (fX4_isVerdict v2) fun x3 =>
      if x3 = 0 then
        some (-2)
      else
        some 0) fun (t2 : Int32) =>
  if t2 = 0 then
    Option.bind (fX4_branchesIn v2 xs) fun x4 =>
    Option.bind (fX4_bits x4) fun x5 =>
    Option.bind (lp (bX4_drive_56 v1 v2 xs) fu (x5, (-9), 0, xm)) fun ((t10, t11) : Int32 × (Nat → Int32)) =>
    some (t10, t11, xe)
  else
    Option.bind (fX4_no t2 xe) fun x16 =>
    some (x16.1, xm, x16.2)

def rmX4_drive : Room := { frames := 6, cells := 0, slots := 0, locals := 136 }
theorem mbX4_drive_f9 : Cond.fieldLink RX4 9 (TX4 0).1 (TX4 0).2.1 (TX4 0).2.2.1 ∈ wsX4_drive := by decide +kernel
theorem inX4_drive_X4 : ∀ w ∈ wsX40, w ∈ wsX4_drive := by decide +kernel
theorem mbX4_drive_f13 : Cond.fieldLink RX4 13 (TX4 1).1 (TX4 1).2.1 (TX4 1).2.2.1 ∈ wsX4_drive := by decide +kernel
theorem hdVX4_drive : yX4_drive.cls = RX4 ∧ yX4_drive.cls ≠ "java/lang/invoke/MethodHandle" ∧ yX4_drive.cls ≠ "java/lang/invoke/VarHandle" ∧ (parseMethodDescriptor yX4_drive.desc).map (fun d => d.parameters.length) = some 2 := by decide +kernel
set_option maxHeartbeats 4000000 in
set_option maxRecDepth 100000 in
theorem ctX4_drive {l : Launch} {D : va_G} {cI cJ cQ : ClassId} (ad : Nat → Nat) (xs : (Nat → Int32)) (xm : (Nat → Int32)) (xi : (Nat → Int32)) (xw : (Nat → Int32)) (xh : Int32) (xl : (Nat → Int32)) (xr : (Nat → Int32)) (xe : (Nat → Int32)) (xn : Int32) (xo : Int32) (xp : Int32) (xu : (Nat → Int32)) (xd : Int32) (v1 : Int32) (v2 : Int32) {res : Int32 × (Nat → Int32) × (Nat → Int32)} (h : fX4_drive v1 v2 xs xm xe = some res) : CtI l D cI cJ cQ yX4_drive wsX4_drive rmX4_drive [.ref (ad 0), .int v1, .int v2] (wMd cI ad xs xm xi xw xh xl xr xe xn xo xp xu xd) res.1 (wMd cI ad xs res.2.1 xi xw xh xl xr res.2.2 xn xo xp xu xd) := by
  refine ctI_of .int (cc := cX4_drive) (maxL := 8) (by decide) rfl (Nat.le_of_ble_eq_true rfl) ?_
  intro p e s m args below meth c A Q ls F hK hA RET hH hl
  obtain ⟨hx, hb, hml, hown, hts⟩ := id F
  have hl : lv_has ls 8 [(0, .ref (ad 0)), (1, .int v1), (2, .int v2)] := hl
  have hf : wpO (fX4_drive v1 v2 xs xm xe) (fun v => v = res) := ⟨_, h, rfl⟩
  obtain ⟨H, eH⟩ : ∃ H, H = s.heap := ⟨_, rfl⟩
  obtain ⟨locs, eL⟩ : ∃ locs : List Loc, locs = [] := ⟨_, rfl⟩
  have hH : Hs D A s.heap (wMd cI ad xs xm xi xw xh xl xr xe xn xo xp xu xd) H locs := by rw [eH, eL]; exact hH
  rw [← eL]
  suffices hgo : W p l e rmX4_drive s m args below meth c H locs 0 0 Q (F0 m 0 ls []) by rw [eH] at hgo; exact hgo
  clear eH eL
  refine lv_aload_n hx hb dX4_drive_0 rfl (lv_at hl 0 rfl) ?_
  refine lv_iload_n hx hb dX4_drive_1 rfl (lv_at hl 1 rfl) ?_
  obtain ⟨x1, hcl, hf⟩ := wp_b hf
  refine k_Vi0 F hK hH hA hl.1 ⟨Nat.zero_le _, Nat.zero_le _⟩ [.int v1] [] (ctX4_isThing ad xs xm xi xw xh xl xr xe xn xo xp xu xd v1 hcl) (cwV 1 hts gX4_drive_X4_isThing rfl rfl rfl hdVX4_isThing ⟨Nat.le_of_ble_eq_true rfl, Nat.le_of_ble_eq_true rfl⟩) dX4_drive_2 0 rfl rfl rfl rfl rfl (Nat.le_of_ble_eq_true rfl) rfl (fun H locs hH => ?_)
  have hH : Hs D A s.heap (wMd cI ad xs xm xi xw xh xl xr xe xn xo xp xu xd) H locs := hH
  refine join_ (α := Int32) (fun Φ => ∀ (t2 : Int32) (H : Heap) (locs : List Loc) (ls : Array Slot), Φ t2 → Hs D A s.heap (wMd cI ad xs xm xi xw xh xl xr xe xn xo xp xu xd) H locs → lv_has ls 8 [(0, .ref (ad 0)), (1, .int v1), (2, .int v2)] → W p l e rmX4_drive s m args below meth c H locs 0 0 Q (F0 m 25 ls [.int t2])) (wp_bb hf) ?_ ?_
  · intro t2 H locs ls hf hH hl
    refine lv_istore_n (lv' := [(3, .int t2), (0, .ref (ad 0)), (1, .int v1), (2, .int v2)]) hx hb dX4_drive_25 rfl hl (by decide) rfl (fun ls hl => ?_)
    refine lv_iload_n hx hb dX4_drive_26 rfl (lv_at hl 0 rfl) ?_
    refine lv_if_eq (tgt := 36) hx hb dX4_drive_27 (by decide) (fun hc => ?_) (fun hc => ?_)
    · have hf := wp_t hc hf
      refine lv_aload_n hx hb dX4_drive_36 rfl (lv_at hl 1 rfl) ?_
      refine k_get (v := .ref (ad 1)) F hK hH 0 inX4_drive_X4 0 mbX4_drive_f9 dX4_drive_37 rfl rfl (by decide) rfl ?_
      refine lv_iload_n hx hb dX4_drive_40 rfl (lv_at hl 3 rfl) ?_
      obtain ⟨x4, hcl, hf⟩ := wp_b hf
      refine k_Si F hK hH hA hl.1 ⟨Nat.zero_le _, Nat.zero_le _⟩ [1] [.ref (ad 1), .int v2] [] (ctX4_branchesIn (ad 1) xs v2 hcl) (va_cwS 2 hts gX4_drive_X4_branchesIn rfl rfl rfl hdSX4_branchesIn ⟨Nat.le_of_ble_eq_true rfl, Nat.le_of_ble_eq_true rfl⟩) dX4_drive_41 rfl rfl (Nat.le_of_ble_eq_true rfl) rfl rfl (by decide) (fun H locs hH => ?_)
      have hH : Hs D A s.heap (wMd cI ad xs xm xi xw xh xl xr xe xn xo xp xu xd) H locs := hH
      obtain ⟨x5, hcl, hf⟩ := wp_b hf
      refine k_Si F hK hH hA hl.1 ⟨Nat.zero_le _, Nat.zero_le _⟩ [] [.int x4] [] (ctX4_bits x4 hcl) (va_cwS 1 hts gX4_drive_X4_bits rfl rfl rfl hdSX4_bits ⟨Nat.le_of_ble_eq_true rfl, Nat.le_of_ble_eq_true rfl⟩) dX4_drive_44 rfl rfl (Nat.le_of_ble_eq_true rfl) rfl rfl (by decide) (fun H locs hH => ?_)
      have hH : Hs D A s.heap (wMd cI ad xs xm xi xw xh xl xr xe xn xo xp xu xd) H locs := hH
      refine lv_istore (lv' := [(4, .int x5), (3, .int t2), (0, .ref (ad 0)), (1, .int v1), (2, .int v2)]) hx hb dX4_drive_47 hl (by decide) rfl (fun ls hl => ?_)
      refine lv_bipush (v := (-9)) hx hb dX4_drive_49 (by decide) ?_
      refine lv_istore (lv' := [(5, .int (-9)), (4, .int x5), (3, .int t2), (0, .ref (ad 0)), (1, .int v1), (2, .int v2)]) hx hb dX4_drive_51 hl (by decide) rfl (fun ls hl => ?_)
      refine lv_iconst (v := 0) hx hb dX4_drive_53 (by decide) ?_
      refine lv_istore (lv' := [(6, .int 0), (5, .int (-9)), (4, .int x5), (3, .int t2), (0, .ref (ad 0)), (1, .int v1), (2, .int v2)]) hx hb dX4_drive_54 hl (by decide) rfl (fun ls hl => ?_)
      have LP : ∀ (Φ : (Int32 × (Nat → Int32)) → Prop), (∀ (t10 : Int32) (t11 : (Nat → Int32)) (H : Heap) (locs : List Loc) (ls : Array Slot), Φ ((t10, t11)) → Hs D A s.heap (wMd cI ad xs t11 xi xw xh xl xr xe xn xo xp xu xd) H locs → lv_has ls 8 [(5, .int t10)] → W p l e rmX4_drive s m args below meth c H locs 0 0 Q (F0 m 123 ls [])) → ∀ (n : Nat) (t6 : Int32) (t7 : Int32) (t8 : Int32) (t9 : (Nat → Int32)) (H : Heap) (locs : List Loc) (ls : Array Slot), wpO (lp (bX4_drive_56 v1 v2 xs) n (t6, t7, t8, t9)) Φ → Hs D A s.heap (wMd cI ad xs t9 xi xw xh xl xr xe xn xo xp xu xd) H locs → lv_has ls 8 [(0, .ref (ad 0)), (1, .int v1), (2, .int v2), (4, .int t6), (5, .int t7), (6, .int t8)] → W p l e rmX4_drive s m args below meth c H locs 0 0 Q (F0 m 56 ls []) := by
        intro Φ EX n
        induction n with
        | zero =>
          intro t6 t7 t8 t9 H locs ls hf hH hl
          exact (wp_l0 hf).elim
        | succ n ih =>
          intro t6 t7 t8 t9 H locs ls hf hH hl
          have hf := wp_l hf
          refine lv_iload hx hb dX4_drive_56 (lv_at hl 5 rfl) ?_
          refine lv_bipush (v := 16) hx hb dX4_drive_58 (by decide) ?_
          refine lv_icmp_ge (tgt := 123) hx hb dX4_drive_60 (by decide) (fun hc => ?_) (fun hc => ?_)
          · have hf := wp_t hc hf
            have hw := wp_out hf
            exact EX _ _ _ _ _ hw hH (lv_sub hl [4] rfl)
          · have hf := wp_f hc hf
            refine lv_aload_n hx hb dX4_drive_63 rfl (lv_at hl 0 rfl) ?_
            refine k_get (v := .ref (ad 1)) F hK hH 0 inX4_drive_X4 0 mbX4_drive_f9 dX4_drive_64 rfl rfl (by decide) rfl ?_
            refine lv_aload_n hx hb dX4_drive_67 rfl (lv_at hl 0 rfl) ?_
            refine k_get (v := .ref (ad 2)) F hK hH 0 inX4_drive_X4 1 mbX4_drive_f13 dX4_drive_68 rfl rfl (by decide) rfl ?_
            obtain ⟨x12, hcl, hf⟩ := wp_b hf
            refine k_Sv F hK hH hA hl.1 ⟨Nat.zero_le _, Nat.zero_le _⟩ [1, 2] [.ref (ad 1), .ref (ad 2)] [] (ctX4_copies (ad 1) (ad 2) xs t9 hcl) (va_cwS 2 hts gX4_drive_X4_copies rfl rfl rfl hdSX4_copies ⟨Nat.le_of_ble_eq_true rfl, Nat.le_of_ble_eq_true rfl⟩) dX4_drive_71 rfl rfl (Nat.le_of_ble_eq_true rfl) rfl rfl (by decide) (fun H locs hH => ?_)
            have hH : Hs D A s.heap (wMd cI ad xs x12 xi xw xh xl xr xe xn xo xp xu xd) H locs := hH
            refine lv_aload_n hx hb dX4_drive_74 rfl (lv_at hl 0 rfl) ?_
            refine k_get (v := .ref (ad 2)) F hK hH 0 inX4_drive_X4 1 mbX4_drive_f13 dX4_drive_75 rfl rfl (by decide) rfl ?_
            refine lv_iload_n hx hb dX4_drive_78 rfl (lv_at hl 1 rfl) ?_
            refine lv_iconst (v := 2) hx hb dX4_drive_79 (by decide) ?_
            obtain ⟨x13, hcl, hf⟩ := wp_b hf
            refine k_Si F hK hH hA hl.1 ⟨Nat.zero_le _, Nat.zero_le _⟩ [] [.int v1, .int 2] [.ref (ad 2)] (ctX4_of v1 2 hcl) (va_cwS 2 hts gX4_drive_X4_of rfl rfl rfl hdSX4_of ⟨Nat.le_of_ble_eq_true rfl, Nat.le_of_ble_eq_true rfl⟩) dX4_drive_80 rfl rfl (Nat.le_of_ble_eq_true rfl) rfl rfl (by decide) (fun H locs hH => ?_)
            have hH : Hs D A s.heap (wMd cI ad xs x12 xi xw xh xl xr xe xn xo xp xu xd) H locs := hH
            refine lv_iload hx hb dX4_drive_83 (lv_at hl 5 rfl) ?_
            obtain ⟨hi, hf⟩ := wp_n hf
            refine k_iast (f := x12) (n := 53) F hK hH 2 dX4_drive_85 hi rfl (fun H locs hH => ?_)
            have hH : Hs D A s.heap (wMd cI ad xs (upd x12 (Int32.toNatClampNeg x13) t8) xi xw xh xl xr xe xn xo xp xu xd) H locs := hH
            refine lv_aload_n hx hb dX4_drive_86 rfl (lv_at hl 0 rfl) ?_
            refine k_get (v := .ref (ad 2)) F hK hH 0 inX4_drive_X4 1 mbX4_drive_f13 dX4_drive_87 rfl rfl (by decide) rfl ?_
            refine lv_iload_n hx hb dX4_drive_90 rfl (lv_at hl 2 rfl) ?_
            obtain ⟨x14, hcl, hf⟩ := wp_b hf
            refine k_Si F hK hH hA hl.1 ⟨Nat.zero_le _, Nat.zero_le _⟩ [2] [.ref (ad 2), .int v2] [] (ctX4_branchesIn (ad 2) (upd x12 (Int32.toNatClampNeg x13) t8) v2 hcl) (va_cwS 2 hts gX4_drive_X4_branchesIn rfl rfl rfl hdSX4_branchesIn ⟨Nat.le_of_ble_eq_true rfl, Nat.le_of_ble_eq_true rfl⟩) dX4_drive_91 rfl rfl (Nat.le_of_ble_eq_true rfl) rfl rfl (by decide) (fun H locs hH => ?_)
            have hH : Hs D A s.heap (wMd cI ad xs (upd x12 (Int32.toNatClampNeg x13) t8) xi xw xh xl xr xe xn xo xp xu xd) H locs := hH
            obtain ⟨x15, hcl, hf⟩ := wp_b hf
            refine k_Si F hK hH hA hl.1 ⟨Nat.zero_le _, Nat.zero_le _⟩ [] [.int x14] [] (ctX4_bits x14 hcl) (va_cwS 1 hts gX4_drive_X4_bits rfl rfl rfl hdSX4_bits ⟨Nat.le_of_ble_eq_true rfl, Nat.le_of_ble_eq_true rfl⟩) dX4_drive_94 rfl rfl (Nat.le_of_ble_eq_true rfl) rfl rfl (by decide) (fun H locs hH => ?_)
            have hH : Hs D A s.heap (wMd cI ad xs (upd x12 (Int32.toNatClampNeg x13) t8) xi xw xh xl xr xe xn xo xp xu xd) H locs := hH
            refine lv_istore (lv' := [(7, .int x15), (0, .ref (ad 0)), (1, .int v1), (2, .int v2), (4, .int t6), (5, .int t7), (6, .int t8)]) hx hb dX4_drive_97 hl (by decide) rfl (fun ls hl => ?_)
            refine lv_iload hx hb dX4_drive_99 (lv_at hl 0 rfl) ?_
            refine lv_iload hx hb dX4_drive_101 (lv_at hl 4 rfl) ?_
            refine lv_icmp_gt (tgt := 109) hx hb dX4_drive_103 (by decide) (fun hc => ?_) (fun hc => ?_)
            · have hf := wp_t hc hf
              refine lv_iload hx hb dX4_drive_109 (lv_at hl 6 rfl) ?_
              refine lv_istore (lv' := [(5, .int t8), (7, .int x15), (0, .ref (ad 0)), (1, .int v1), (2, .int v2), (4, .int t6), (6, .int t8)]) hx hb dX4_drive_111 hl (by decide) rfl (fun ls hl => ?_)
              refine lv_iload hx hb dX4_drive_113 (lv_at hl 1 rfl) ?_
              refine lv_istore (lv' := [(4, .int x15), (5, .int t8), (7, .int x15), (0, .ref (ad 0)), (1, .int v1), (2, .int v2), (6, .int t8)]) hx hb dX4_drive_115 hl (by decide) rfl (fun ls hl => ?_)
              refine lv_iinc (v := t8 + 1) (lv' := [(6, .int (t8 + 1)), (4, .int x15), (5, .int t8), (7, .int x15), (0, .ref (ad 0)), (1, .int v1), (2, .int v2)]) hx hb dX4_drive_117 hl (k := 6) rfl rfl (by decide) rfl (fun ls hl => ?_)
              refine lv_goto (tgt := 56) hx hb dX4_drive_120 (by decide) ?_
              have hw := wp_in hf
              exact ih _ _ _ _ _ _ _ hw hH (lv_sub hl [4, 5, 6, 1, 2, 0] rfl)
            · have hf := wp_f hc hf
              refine lv_goto (tgt := 117) hx hb dX4_drive_106 (by decide) ?_
              refine lv_iinc (v := t8 + 1) (lv' := [(6, .int (t8 + 1)), (7, .int x15), (0, .ref (ad 0)), (1, .int v1), (2, .int v2), (4, .int t6), (5, .int t7)]) hx hb dX4_drive_117 hl (k := 6) rfl rfl (by decide) rfl (fun ls hl => ?_)
              refine lv_goto (tgt := 56) hx hb dX4_drive_120 (by decide) ?_
              have hw := wp_in hf
              exact ih _ _ _ _ _ _ _ hw hH (lv_sub hl [2, 3, 4, 5, 6, 0] rfl)
      refine LP _ (fun t10 t11 H locs ls hf hH hl => ?_) fu _ _ _ _ _ _ _ (wp_bb hf) hH (lv_sub hl [4, 5, 6, 2, 1, 0] rfl)
      refine lv_iload hx hb dX4_drive_123 (lv_at hl 0 rfl) ?_
      have hrs := wp_s hf
      subst hrs
      exact RET H locs ls 125 dX4_drive_125 rfl hH
    · have hf := wp_f hc hf
      refine lv_aload_n hx hb dX4_drive_30 rfl (lv_at hl 1 rfl) ?_
      refine lv_iload_n hx hb dX4_drive_31 rfl (lv_at hl 0 rfl) ?_
      obtain ⟨x16, hcl, hf⟩ := wp_b hf
      refine k_Vi0 F hK hH hA hl.1 ⟨Nat.zero_le _, Nat.zero_le _⟩ [.int t2] [] (ctX4_no ad xs xm xi xw xh xl xr xe xn xo xp xu xd t2 hcl) (cwV 1 hts gX4_drive_X4_no rfl rfl rfl hdVX4_no ⟨Nat.le_of_ble_eq_true rfl, Nat.le_of_ble_eq_true rfl⟩) dX4_drive_32 0 rfl rfl rfl rfl rfl (Nat.le_of_ble_eq_true rfl) rfl (fun H locs hH => ?_)
      have hH : Hs D A s.heap (wMd cI ad xs xm xi xw xh xl xr x16.2 xn xo xp xu xd) H locs := hH
      refine W.eq (g2 := F0 m 35 ls [.int x16.1]) rfl ?_
      have hrs := wp_s hf
      subst hrs
      exact RET H locs ls 35 dX4_drive_35 rfl hH
  · intro Φ JJ hf
    refine lv_if_ne (tgt := 12) hx hb dX4_drive_5 (by decide) (fun hc => ?_) (fun hc => ?_)
    · have hf := wp_f hc hf
      refine lv_iload_n hx hb dX4_drive_12 rfl (lv_at hl 2 rfl) ?_
      obtain ⟨x3, hcl, hf⟩ := wp_b hf
      refine k_Si F hK hH hA hl.1 ⟨Nat.zero_le _, Nat.zero_le _⟩ [] [.int v2] [] (ctX4_isVerdict v2 hcl) (va_cwS 1 hts gX4_drive_X4_isVerdict rfl rfl rfl hdSX4_isVerdict ⟨Nat.le_of_ble_eq_true rfl, Nat.le_of_ble_eq_true rfl⟩) dX4_drive_13 rfl rfl (Nat.le_of_ble_eq_true rfl) rfl rfl (by decide) (fun H locs hH => ?_)
      have hH : Hs D A s.heap (wMd cI ad xs xm xi xw xh xl xr xe xn xo xp xu xd) H locs := hH
      refine lv_if_eq (tgt := 23) hx hb dX4_drive_16 (by decide) (fun hc => ?_) (fun hc => ?_)
      · have hf := wp_t hc hf
        refine lv_bipush (v := (-2)) hx hb dX4_drive_23 (by decide) ?_
        have hw := wp_s hf
        exact JJ _ _ _ _ hw hH (lv_sub hl [0, 1, 2] rfl)
      · have hf := wp_f hc hf
        refine lv_iconst (v := 0) hx hb dX4_drive_19 (by decide) ?_
        refine lv_goto (tgt := 25) hx hb dX4_drive_20 (by decide) ?_
        have hw := wp_s hf
        exact JJ _ _ _ _ hw hH (lv_sub hl [0, 1, 2] rfl)
    · have hf := wp_t hc hf
      refine lv_iconst (v := (-1)) hx hb dX4_drive_8 (by decide) ?_
      refine lv_goto (tgt := 25) hx hb dX4_drive_9 (by decide) ?_
      have hw := wp_s hf
      exact JJ _ _ _ _ hw hH (lv_sub hl [0, 1, 2] rfl)

def bX4_hill_57 (v1 : Int32) (v2 : Int32) (xs : (Nat → Int32)) : (Int32 × Int32 × Int32 × (Nat → Int32)) → Option ((Int32 × Int32 × Int32 × (Nat → Int32)) ⊕ (Int32 × (Nat → Int32))) := fun ((t6, t7, t8, t9) : Int32 × Int32 × Int32 × (Nat → Int32)) =>
  if (16 : Int32) ≤ t8 then
    some (.inr (t7, t9))
  else
    Option.bind (fX4_copies xs t9) fun x12 =>
    Option.bind (if v2 = 0 then
        some 0
      else
        some 9) fun (t13 : Int32) =>
    if ob (4 + t8) 53 then none else
    Option.bind (fX4_seenIn v1 (upd x12 (Int32.toNatClampNeg (4 + t8)) t13)) fun x14 =>
    Option.bind (fX4_bits x14) fun x15 =>
    if v2 = 0 then
      if t6 < x15 then
        some (.inl (x15, t8, t8 + 1, upd x12 (Int32.toNatClampNeg (4 + t8)) t13))
      else
        some (.inl (t6, t7, t8 + 1, upd x12 (Int32.toNatClampNeg (4 + t8)) t13))
    else
      if x15 < t6 then
        some (.inl (x15, t8, t8 + 1, upd x12 (Int32.toNatClampNeg (4 + t8)) t13))
      else
        some (.inl (t6, t7, t8 + 1, upd x12 (Int32.toNatClampNeg (4 + t8)) t13))

def fX4_hill (v1 : Int32) (v2 : Int32) (xs : (Nat → Int32)) (xm : (Nat → Int32)) (xe : (Nat → Int32)) : Option (Int32 × (Nat → Int32) × (Nat → Int32)) :=
  Option.bind (fX4_isBranch v1) fun x1 =>
  Option.bind (if x1 = 0 then
      some (-1)
    else
      Option.bind (fX4_isIn v2 0 1) fun x3 =>
      if x3 = 0 then
        some (-2)
      else
        some 0) fun (t2 : Int32) =>
  if t2 = 0 then
    Option.bind (fX4_seenIn v1 xs) fun x4 =>
    Option.bind (fX4_bits x4) fun x5 =>
    Option.bind (lp (bX4_hill_57 v1 v2 xs) fu (x5, (-9), 0, xm)) fun ((t10, t11) : Int32 × (Nat → Int32)) =>
    some (t10, t11, xe)
  else
    Option.bind (fX4_no t2 xe) fun x16 =>
    some (x16.1, xm, x16.2)

def rmX4_hill : Room := { frames := 3, cells := 0, slots := 0, locals := 66 }
theorem mbX4_hill_f9 : Cond.fieldLink RX4 9 (TX4 0).1 (TX4 0).2.1 (TX4 0).2.2.1 ∈ wsX4_hill := by decide +kernel
theorem inX4_hill_X4 : ∀ w ∈ wsX40, w ∈ wsX4_hill := by decide +kernel
theorem mbX4_hill_f13 : Cond.fieldLink RX4 13 (TX4 1).1 (TX4 1).2.1 (TX4 1).2.2.1 ∈ wsX4_hill := by decide +kernel
theorem hdVX4_hill : yX4_hill.cls = RX4 ∧ yX4_hill.cls ≠ "java/lang/invoke/MethodHandle" ∧ yX4_hill.cls ≠ "java/lang/invoke/VarHandle" ∧ (parseMethodDescriptor yX4_hill.desc).map (fun d => d.parameters.length) = some 2 := by decide +kernel
set_option maxHeartbeats 4000000 in
set_option maxRecDepth 100000 in
theorem ctX4_hill {l : Launch} {D : va_G} {cI cJ cQ : ClassId} (ad : Nat → Nat) (xs : (Nat → Int32)) (xm : (Nat → Int32)) (xi : (Nat → Int32)) (xw : (Nat → Int32)) (xh : Int32) (xl : (Nat → Int32)) (xr : (Nat → Int32)) (xe : (Nat → Int32)) (xn : Int32) (xo : Int32) (xp : Int32) (xu : (Nat → Int32)) (xd : Int32) (v1 : Int32) (v2 : Int32) {res : Int32 × (Nat → Int32) × (Nat → Int32)} (h : fX4_hill v1 v2 xs xm xe = some res) : CtI l D cI cJ cQ yX4_hill wsX4_hill rmX4_hill [.ref (ad 0), .int v1, .int v2] (wMd cI ad xs xm xi xw xh xl xr xe xn xo xp xu xd) res.1 (wMd cI ad xs res.2.1 xi xw xh xl xr res.2.2 xn xo xp xu xd) := by
  refine ctI_of .int (cc := cX4_hill) (maxL := 8) (by decide) rfl (Nat.le_of_ble_eq_true rfl) ?_
  intro p e s m args below meth c A Q ls F hK hA RET hH hl
  obtain ⟨hx, hb, hml, hown, hts⟩ := id F
  have hl : lv_has ls 8 [(0, .ref (ad 0)), (1, .int v1), (2, .int v2)] := hl
  have hf : wpO (fX4_hill v1 v2 xs xm xe) (fun v => v = res) := ⟨_, h, rfl⟩
  obtain ⟨H, eH⟩ : ∃ H, H = s.heap := ⟨_, rfl⟩
  obtain ⟨locs, eL⟩ : ∃ locs : List Loc, locs = [] := ⟨_, rfl⟩
  have hH : Hs D A s.heap (wMd cI ad xs xm xi xw xh xl xr xe xn xo xp xu xd) H locs := by rw [eH, eL]; exact hH
  rw [← eL]
  suffices hgo : W p l e rmX4_hill s m args below meth c H locs 0 0 Q (F0 m 0 ls []) by rw [eH] at hgo; exact hgo
  clear eH eL
  refine lv_iload_n hx hb dX4_hill_0 rfl (lv_at hl 1 rfl) ?_
  obtain ⟨x1, hcl, hf⟩ := wp_b hf
  refine k_Si F hK hH hA hl.1 ⟨Nat.zero_le _, Nat.zero_le _⟩ [] [.int v1] [] (ctX4_isBranch v1 hcl) (va_cwS 1 hts gX4_hill_X4_isBranch rfl rfl rfl hdSX4_isBranch ⟨Nat.le_of_ble_eq_true rfl, Nat.le_of_ble_eq_true rfl⟩) dX4_hill_1 rfl rfl (Nat.le_of_ble_eq_true rfl) rfl rfl (by decide) (fun H locs hH => ?_)
  have hH : Hs D A s.heap (wMd cI ad xs xm xi xw xh xl xr xe xn xo xp xu xd) H locs := hH
  refine join_ (α := Int32) (fun Φ => ∀ (t2 : Int32) (H : Heap) (locs : List Loc) (ls : Array Slot), Φ t2 → Hs D A s.heap (wMd cI ad xs xm xi xw xh xl xr xe xn xo xp xu xd) H locs → lv_has ls 8 [(0, .ref (ad 0)), (1, .int v1), (2, .int v2)] → W p l e rmX4_hill s m args below meth c H locs 0 0 Q (F0 m 26 ls [.int t2])) (wp_bb hf) ?_ ?_
  · intro t2 H locs ls hf hH hl
    refine lv_istore_n (lv' := [(3, .int t2), (0, .ref (ad 0)), (1, .int v1), (2, .int v2)]) hx hb dX4_hill_26 rfl hl (by decide) rfl (fun ls hl => ?_)
    refine lv_iload_n hx hb dX4_hill_27 rfl (lv_at hl 0 rfl) ?_
    refine lv_if_eq (tgt := 37) hx hb dX4_hill_28 (by decide) (fun hc => ?_) (fun hc => ?_)
    · have hf := wp_t hc hf
      refine lv_aload_n hx hb dX4_hill_37 rfl (lv_at hl 1 rfl) ?_
      refine k_get (v := .ref (ad 1)) F hK hH 0 inX4_hill_X4 0 mbX4_hill_f9 dX4_hill_38 rfl rfl (by decide) rfl ?_
      refine lv_iload_n hx hb dX4_hill_41 rfl (lv_at hl 2 rfl) ?_
      obtain ⟨x4, hcl, hf⟩ := wp_b hf
      refine k_Si F hK hH hA hl.1 ⟨Nat.zero_le _, Nat.zero_le _⟩ [1] [.ref (ad 1), .int v1] [] (ctX4_seenIn (ad 1) xs v1 hcl) (va_cwS 2 hts gX4_hill_X4_seenIn rfl rfl rfl hdSX4_seenIn ⟨Nat.le_of_ble_eq_true rfl, Nat.le_of_ble_eq_true rfl⟩) dX4_hill_42 rfl rfl (Nat.le_of_ble_eq_true rfl) rfl rfl (by decide) (fun H locs hH => ?_)
      have hH : Hs D A s.heap (wMd cI ad xs xm xi xw xh xl xr xe xn xo xp xu xd) H locs := hH
      obtain ⟨x5, hcl, hf⟩ := wp_b hf
      refine k_Si F hK hH hA hl.1 ⟨Nat.zero_le _, Nat.zero_le _⟩ [] [.int x4] [] (ctX4_bits x4 hcl) (va_cwS 1 hts gX4_hill_X4_bits rfl rfl rfl hdSX4_bits ⟨Nat.le_of_ble_eq_true rfl, Nat.le_of_ble_eq_true rfl⟩) dX4_hill_45 rfl rfl (Nat.le_of_ble_eq_true rfl) rfl rfl (by decide) (fun H locs hH => ?_)
      have hH : Hs D A s.heap (wMd cI ad xs xm xi xw xh xl xr xe xn xo xp xu xd) H locs := hH
      refine lv_istore (lv' := [(4, .int x5), (3, .int t2), (0, .ref (ad 0)), (1, .int v1), (2, .int v2)]) hx hb dX4_hill_48 hl (by decide) rfl (fun ls hl => ?_)
      refine lv_bipush (v := (-9)) hx hb dX4_hill_50 (by decide) ?_
      refine lv_istore (lv' := [(5, .int (-9)), (4, .int x5), (3, .int t2), (0, .ref (ad 0)), (1, .int v1), (2, .int v2)]) hx hb dX4_hill_52 hl (by decide) rfl (fun ls hl => ?_)
      refine lv_iconst (v := 0) hx hb dX4_hill_54 (by decide) ?_
      refine lv_istore (lv' := [(6, .int 0), (5, .int (-9)), (4, .int x5), (3, .int t2), (0, .ref (ad 0)), (1, .int v1), (2, .int v2)]) hx hb dX4_hill_55 hl (by decide) rfl (fun ls hl => ?_)
      have LP : ∀ (Φ : (Int32 × (Nat → Int32)) → Prop), (∀ (t10 : Int32) (t11 : (Nat → Int32)) (H : Heap) (locs : List Loc) (ls : Array Slot), Φ ((t10, t11)) → Hs D A s.heap (wMd cI ad xs t11 xi xw xh xl xr xe xn xo xp xu xd) H locs → lv_has ls 8 [(5, .int t10)] → W p l e rmX4_hill s m args below meth c H locs 0 0 Q (F0 m 145 ls [])) → ∀ (n : Nat) (t6 : Int32) (t7 : Int32) (t8 : Int32) (t9 : (Nat → Int32)) (H : Heap) (locs : List Loc) (ls : Array Slot), wpO (lp (bX4_hill_57 v1 v2 xs) n (t6, t7, t8, t9)) Φ → Hs D A s.heap (wMd cI ad xs t9 xi xw xh xl xr xe xn xo xp xu xd) H locs → lv_has ls 8 [(0, .ref (ad 0)), (1, .int v1), (2, .int v2), (4, .int t6), (5, .int t7), (6, .int t8)] → W p l e rmX4_hill s m args below meth c H locs 0 0 Q (F0 m 57 ls []) := by
        intro Φ EX n
        induction n with
        | zero =>
          intro t6 t7 t8 t9 H locs ls hf hH hl
          exact (wp_l0 hf).elim
        | succ n ih =>
          intro t6 t7 t8 t9 H locs ls hf hH hl
          have hf := wp_l hf
          refine lv_iload hx hb dX4_hill_57 (lv_at hl 5 rfl) ?_
          refine lv_bipush (v := 16) hx hb dX4_hill_59 (by decide) ?_
          refine lv_icmp_ge (tgt := 145) hx hb dX4_hill_61 (by decide) (fun hc => ?_) (fun hc => ?_)
          · have hf := wp_t hc hf
            have hw := wp_out hf
            exact EX _ _ _ _ _ hw hH (lv_sub hl [4] rfl)
          · have hf := wp_f hc hf
            refine lv_aload_n hx hb dX4_hill_64 rfl (lv_at hl 0 rfl) ?_
            refine k_get (v := .ref (ad 1)) F hK hH 0 inX4_hill_X4 0 mbX4_hill_f9 dX4_hill_65 rfl rfl (by decide) rfl ?_
            refine lv_aload_n hx hb dX4_hill_68 rfl (lv_at hl 0 rfl) ?_
            refine k_get (v := .ref (ad 2)) F hK hH 0 inX4_hill_X4 1 mbX4_hill_f13 dX4_hill_69 rfl rfl (by decide) rfl ?_
            obtain ⟨x12, hcl, hf⟩ := wp_b hf
            refine k_Sv F hK hH hA hl.1 ⟨Nat.zero_le _, Nat.zero_le _⟩ [1, 2] [.ref (ad 1), .ref (ad 2)] [] (ctX4_copies (ad 1) (ad 2) xs t9 hcl) (va_cwS 2 hts gX4_hill_X4_copies rfl rfl rfl hdSX4_copies ⟨Nat.le_of_ble_eq_true rfl, Nat.le_of_ble_eq_true rfl⟩) dX4_hill_72 rfl rfl (Nat.le_of_ble_eq_true rfl) rfl rfl (by decide) (fun H locs hH => ?_)
            have hH : Hs D A s.heap (wMd cI ad xs x12 xi xw xh xl xr xe xn xo xp xu xd) H locs := hH
            refine lv_aload_n hx hb dX4_hill_75 rfl (lv_at hl 0 rfl) ?_
            refine k_get (v := .ref (ad 2)) F hK hH 0 inX4_hill_X4 1 mbX4_hill_f13 dX4_hill_76 rfl rfl (by decide) rfl ?_
            refine lv_iconst (v := 4) hx hb dX4_hill_79 (by decide) ?_
            refine lv_iload hx hb dX4_hill_80 (lv_at hl 5 rfl) ?_
            refine lv_iadd hx hb dX4_hill_82 ?_
            refine lv_iload_n hx hb dX4_hill_83 rfl (lv_at hl 2 rfl) ?_
            refine join_ (α := Int32) (fun Φ => ∀ (t13 : Int32) (H : Heap) (locs : List Loc) (ls : Array Slot), Φ t13 → Hs D A s.heap (wMd cI ad xs x12 xi xw xh xl xr xe xn xo xp xu xd) H locs → lv_has ls 8 [(0, .ref (ad 0)), (1, .int v1), (2, .int v2), (4, .int t6), (5, .int t7), (6, .int t8)] → W p l e rmX4_hill s m args below meth c H locs 0 0 Q (F0 m 93 ls [.int t13, .int (4 + t8), .ref (ad 2)])) (wp_bb hf) ?_ ?_
            · intro t13 H locs ls hf hH hl
              obtain ⟨hi, hf⟩ := wp_n hf
              refine k_iast (f := x12) (n := 53) F hK hH 2 dX4_hill_93 hi rfl (fun H locs hH => ?_)
              have hH : Hs D A s.heap (wMd cI ad xs (upd x12 (Int32.toNatClampNeg (4 + t8)) t13) xi xw xh xl xr xe xn xo xp xu xd) H locs := hH
              refine lv_aload_n hx hb dX4_hill_94 rfl (lv_at hl 0 rfl) ?_
              refine k_get (v := .ref (ad 2)) F hK hH 0 inX4_hill_X4 1 mbX4_hill_f13 dX4_hill_95 rfl rfl (by decide) rfl ?_
              refine lv_iload_n hx hb dX4_hill_98 rfl (lv_at hl 1 rfl) ?_
              obtain ⟨x14, hcl, hf⟩ := wp_b hf
              refine k_Si F hK hH hA hl.1 ⟨Nat.zero_le _, Nat.zero_le _⟩ [2] [.ref (ad 2), .int v1] [] (ctX4_seenIn (ad 2) (upd x12 (Int32.toNatClampNeg (4 + t8)) t13) v1 hcl) (va_cwS 2 hts gX4_hill_X4_seenIn rfl rfl rfl hdSX4_seenIn ⟨Nat.le_of_ble_eq_true rfl, Nat.le_of_ble_eq_true rfl⟩) dX4_hill_99 rfl rfl (Nat.le_of_ble_eq_true rfl) rfl rfl (by decide) (fun H locs hH => ?_)
              have hH : Hs D A s.heap (wMd cI ad xs (upd x12 (Int32.toNatClampNeg (4 + t8)) t13) xi xw xh xl xr xe xn xo xp xu xd) H locs := hH
              obtain ⟨x15, hcl, hf⟩ := wp_b hf
              refine k_Si F hK hH hA hl.1 ⟨Nat.zero_le _, Nat.zero_le _⟩ [] [.int x14] [] (ctX4_bits x14 hcl) (va_cwS 1 hts gX4_hill_X4_bits rfl rfl rfl hdSX4_bits ⟨Nat.le_of_ble_eq_true rfl, Nat.le_of_ble_eq_true rfl⟩) dX4_hill_102 rfl rfl (Nat.le_of_ble_eq_true rfl) rfl rfl (by decide) (fun H locs hH => ?_)
              have hH : Hs D A s.heap (wMd cI ad xs (upd x12 (Int32.toNatClampNeg (4 + t8)) t13) xi xw xh xl xr xe xn xo xp xu xd) H locs := hH
              refine lv_istore (lv' := [(7, .int x15), (0, .ref (ad 0)), (1, .int v1), (2, .int v2), (4, .int t6), (5, .int t7), (6, .int t8)]) hx hb dX4_hill_105 hl (by decide) rfl (fun ls hl => ?_)
              refine lv_iload_n hx hb dX4_hill_107 rfl (lv_at hl 3 rfl) ?_
              refine lv_if_ne (tgt := 121) hx hb dX4_hill_108 (by decide) (fun hc => ?_) (fun hc => ?_)
              · have hf := wp_f hc hf
                refine lv_iload hx hb dX4_hill_121 (lv_at hl 0 rfl) ?_
                refine lv_iload hx hb dX4_hill_123 (lv_at hl 4 rfl) ?_
                refine lv_icmp_lt (tgt := 131) hx hb dX4_hill_125 (by decide) (fun hc => ?_) (fun hc => ?_)
                · have hf := wp_t hc hf
                  refine lv_iload hx hb dX4_hill_131 (lv_at hl 6 rfl) ?_
                  refine lv_istore (lv' := [(5, .int t8), (7, .int x15), (0, .ref (ad 0)), (1, .int v1), (2, .int v2), (4, .int t6), (6, .int t8)]) hx hb dX4_hill_133 hl (by decide) rfl (fun ls hl => ?_)
                  refine lv_iload hx hb dX4_hill_135 (lv_at hl 1 rfl) ?_
                  refine lv_istore (lv' := [(4, .int x15), (5, .int t8), (7, .int x15), (0, .ref (ad 0)), (1, .int v1), (2, .int v2), (6, .int t8)]) hx hb dX4_hill_137 hl (by decide) rfl (fun ls hl => ?_)
                  refine lv_iinc (v := t8 + 1) (lv' := [(6, .int (t8 + 1)), (4, .int x15), (5, .int t8), (7, .int x15), (0, .ref (ad 0)), (1, .int v1), (2, .int v2)]) hx hb dX4_hill_139 hl (k := 6) rfl rfl (by decide) rfl (fun ls hl => ?_)
                  refine lv_goto (tgt := 57) hx hb dX4_hill_142 (by decide) ?_
                  have hw := wp_in hf
                  exact ih _ _ _ _ _ _ _ hw hH (lv_sub hl [4, 5, 6, 1, 2, 0] rfl)
                · have hf := wp_f hc hf
                  refine lv_goto (tgt := 139) hx hb dX4_hill_128 (by decide) ?_
                  refine lv_iinc (v := t8 + 1) (lv' := [(6, .int (t8 + 1)), (7, .int x15), (0, .ref (ad 0)), (1, .int v1), (2, .int v2), (4, .int t6), (5, .int t7)]) hx hb dX4_hill_139 hl (k := 6) rfl rfl (by decide) rfl (fun ls hl => ?_)
                  refine lv_goto (tgt := 57) hx hb dX4_hill_142 (by decide) ?_
                  have hw := wp_in hf
                  exact ih _ _ _ _ _ _ _ hw hH (lv_sub hl [2, 3, 4, 5, 6, 0] rfl)
              · have hf := wp_t hc hf
                refine lv_iload hx hb dX4_hill_111 (lv_at hl 0 rfl) ?_
                refine lv_iload hx hb dX4_hill_113 (lv_at hl 4 rfl) ?_
                refine lv_icmp_gt (tgt := 131) hx hb dX4_hill_115 (by decide) (fun hc => ?_) (fun hc => ?_)
                · have hf := wp_t hc hf
                  refine lv_iload hx hb dX4_hill_131 (lv_at hl 6 rfl) ?_
                  refine lv_istore (lv' := [(5, .int t8), (7, .int x15), (0, .ref (ad 0)), (1, .int v1), (2, .int v2), (4, .int t6), (6, .int t8)]) hx hb dX4_hill_133 hl (by decide) rfl (fun ls hl => ?_)
                  refine lv_iload hx hb dX4_hill_135 (lv_at hl 1 rfl) ?_
                  refine lv_istore (lv' := [(4, .int x15), (5, .int t8), (7, .int x15), (0, .ref (ad 0)), (1, .int v1), (2, .int v2), (6, .int t8)]) hx hb dX4_hill_137 hl (by decide) rfl (fun ls hl => ?_)
                  refine lv_iinc (v := t8 + 1) (lv' := [(6, .int (t8 + 1)), (4, .int x15), (5, .int t8), (7, .int x15), (0, .ref (ad 0)), (1, .int v1), (2, .int v2)]) hx hb dX4_hill_139 hl (k := 6) rfl rfl (by decide) rfl (fun ls hl => ?_)
                  refine lv_goto (tgt := 57) hx hb dX4_hill_142 (by decide) ?_
                  have hw := wp_in hf
                  exact ih _ _ _ _ _ _ _ hw hH (lv_sub hl [4, 5, 6, 1, 2, 0] rfl)
                · have hf := wp_f hc hf
                  refine lv_goto (tgt := 139) hx hb dX4_hill_118 (by decide) ?_
                  refine lv_iinc (v := t8 + 1) (lv' := [(6, .int (t8 + 1)), (7, .int x15), (0, .ref (ad 0)), (1, .int v1), (2, .int v2), (4, .int t6), (5, .int t7)]) hx hb dX4_hill_139 hl (k := 6) rfl rfl (by decide) rfl (fun ls hl => ?_)
                  refine lv_goto (tgt := 57) hx hb dX4_hill_142 (by decide) ?_
                  have hw := wp_in hf
                  exact ih _ _ _ _ _ _ _ hw hH (lv_sub hl [2, 3, 4, 5, 6, 0] rfl)
            · intro Φ JJ hf
              refine lv_if_ne (tgt := 91) hx hb dX4_hill_84 (by decide) (fun hc => ?_) (fun hc => ?_)
              · have hf := wp_f hc hf
                refine lv_bipush (v := 9) hx hb dX4_hill_91 (by decide) ?_
                have hw := wp_s hf
                exact JJ _ _ _ _ hw hH (lv_sub hl [0, 1, 2, 3, 4, 5] rfl)
              · have hf := wp_t hc hf
                refine lv_iconst (v := 0) hx hb dX4_hill_87 (by decide) ?_
                refine lv_goto (tgt := 93) hx hb dX4_hill_88 (by decide) ?_
                have hw := wp_s hf
                exact JJ _ _ _ _ hw hH (lv_sub hl [0, 1, 2, 3, 4, 5] rfl)
      refine LP _ (fun t10 t11 H locs ls hf hH hl => ?_) fu _ _ _ _ _ _ _ (wp_bb hf) hH (lv_sub hl [4, 5, 6, 2, 1, 0] rfl)
      refine lv_iload hx hb dX4_hill_145 (lv_at hl 0 rfl) ?_
      have hrs := wp_s hf
      subst hrs
      exact RET H locs ls 147 dX4_hill_147 rfl hH
    · have hf := wp_f hc hf
      refine lv_aload_n hx hb dX4_hill_31 rfl (lv_at hl 1 rfl) ?_
      refine lv_iload_n hx hb dX4_hill_32 rfl (lv_at hl 0 rfl) ?_
      obtain ⟨x16, hcl, hf⟩ := wp_b hf
      refine k_Vi0 F hK hH hA hl.1 ⟨Nat.zero_le _, Nat.zero_le _⟩ [.int t2] [] (ctX4_no ad xs xm xi xw xh xl xr xe xn xo xp xu xd t2 hcl) (cwV 1 hts gX4_hill_X4_no rfl rfl rfl hdVX4_no ⟨Nat.le_of_ble_eq_true rfl, Nat.le_of_ble_eq_true rfl⟩) dX4_hill_33 0 rfl rfl rfl rfl rfl (Nat.le_of_ble_eq_true rfl) rfl (fun H locs hH => ?_)
      have hH : Hs D A s.heap (wMd cI ad xs xm xi xw xh xl xr x16.2 xn xo xp xu xd) H locs := hH
      refine W.eq (g2 := F0 m 36 ls [.int x16.1]) rfl ?_
      have hrs := wp_s hf
      subst hrs
      exact RET H locs ls 36 dX4_hill_36 rfl hH
  · intro Φ JJ hf
    refine lv_if_ne (tgt := 11) hx hb dX4_hill_4 (by decide) (fun hc => ?_) (fun hc => ?_)
    · have hf := wp_f hc hf
      refine lv_iload_n hx hb dX4_hill_11 rfl (lv_at hl 2 rfl) ?_
      refine lv_iconst (v := 0) hx hb dX4_hill_12 (by decide) ?_
      refine lv_iconst (v := 1) hx hb dX4_hill_13 (by decide) ?_
      obtain ⟨x3, hcl, hf⟩ := wp_b hf
      refine k_Si F hK hH hA hl.1 ⟨Nat.zero_le _, Nat.zero_le _⟩ [] [.int v2, .int 0, .int 1] [] (ctX4_isIn v2 0 1 hcl) (va_cwS 3 hts gX4_hill_X4_isIn rfl rfl rfl hdSX4_isIn ⟨Nat.le_of_ble_eq_true rfl, Nat.le_of_ble_eq_true rfl⟩) dX4_hill_14 rfl rfl (Nat.le_of_ble_eq_true rfl) rfl rfl (by decide) (fun H locs hH => ?_)
      have hH : Hs D A s.heap (wMd cI ad xs xm xi xw xh xl xr xe xn xo xp xu xd) H locs := hH
      refine lv_if_eq (tgt := 24) hx hb dX4_hill_17 (by decide) (fun hc => ?_) (fun hc => ?_)
      · have hf := wp_t hc hf
        refine lv_bipush (v := (-2)) hx hb dX4_hill_24 (by decide) ?_
        have hw := wp_s hf
        exact JJ _ _ _ _ hw hH (lv_sub hl [0, 1, 2] rfl)
      · have hf := wp_f hc hf
        refine lv_iconst (v := 0) hx hb dX4_hill_20 (by decide) ?_
        refine lv_goto (tgt := 26) hx hb dX4_hill_21 (by decide) ?_
        have hw := wp_s hf
        exact JJ _ _ _ _ hw hH (lv_sub hl [0, 1, 2] rfl)
    · have hf := wp_t hc hf
      refine lv_iconst (v := (-1)) hx hb dX4_hill_7 (by decide) ?_
      refine lv_goto (tgt := 26) hx hb dX4_hill_8 (by decide) ?_
      have hw := wp_s hf
      exact JJ _ _ _ _ hw hH (lv_sub hl [0, 1, 2] rfl)

