def fX4_readsStatement (xl : (Nat → Int32)) (xn : Int32) (xp : Int32) (xu : (Nat → Int32)) : Option (Int32 × Int32 × (Nat → Int32)) :=
  Option.bind (fX4_here xl xn xp) fun x1 =>
  if x1 = 99 then
    Option.bind (fX4_readsNumber 0 2 xl xn (xp + 1) xu) fun x2 =>
    Option.bind (if x2.1 = 0 then
        some (0, x2.2.1, x2.2.2)
      else
        Option.bind (fX4_readsNumber 1 1 xl xn x2.2.1 x2.2.2) fun x6 =>
        if x6.1 = 0 then
          some (0, x6.2.1, x6.2.2)
        else
          some (1, x6.2.1, x6.2.2)) fun ((t3, t4, t5) : Int32 × Int32 × (Nat → Int32)) =>
    if t3 = 0 then
      some (0, t4, t5)
    else
      Option.bind (fX4_here xl xn t4) fun x7 =>
      if x7 = 59 then
        some (1, t4 + 1, t5)
      else
        some (0, t4, t5)
  else
    if x1 = 100 then
      Option.bind (fX4_readsNumber 0 1 xl xn (xp + 1) xu) fun x8 =>
      Option.bind (if x8.1 = 0 then
          some (0, x8.2.1, x8.2.2)
        else
          Option.bind (fX4_readsNumber 1 2 xl xn x8.2.1 x8.2.2) fun x12 =>
          if x12.1 = 0 then
            some (0, x12.2.1, x12.2.2)
          else
            some (1, x12.2.1, x12.2.2)) fun ((t9, t10, t11) : Int32 × Int32 × (Nat → Int32)) =>
      if t9 = 0 then
        some (0, t10, t11)
      else
        Option.bind (fX4_here xl xn t10) fun x13 =>
        if x13 = 59 then
          some (1, t10 + 1, t11)
        else
          some (0, t10, t11)
    else
      if x1 = 101 then
        Option.bind (fX4_readsNumber 0 2 xl xn (xp + 1) xu) fun x14 =>
        if x14.1 = 0 then
          some (0, x14.2.1, x14.2.2)
        else
          Option.bind (fX4_here xl xn x14.2.1) fun x15 =>
          if x15 = 59 then
            some (1, x14.2.1 + 1, x14.2.2)
          else
            some (0, x14.2.1, x14.2.2)
      else
        if x1 = 104 then
          Option.bind (fX4_readsNumber 0 2 xl xn (xp + 1) xu) fun x16 =>
          if x16.1 = 0 then
            some (0, x16.2.1, x16.2.2)
          else
            Option.bind (fX4_here xl xn x16.2.1) fun x17 =>
            if x17 = 59 then
              some (1, x16.2.1 + 1, x16.2.2)
            else
              some (0, x16.2.1, x16.2.2)
        else
          if x1 = 116 then
            Option.bind (fX4_readsKind xl xn (xp + 1) xu) fun x18 =>
            Option.bind (if x18.1 = 0 then
                some (0, x18.2.1, x18.2.2)
              else
                Option.bind (fX4_readsNumber 1 1 xl xn x18.2.1 x18.2.2) fun x22 =>
                if x22.1 = 0 then
                  some (0, x22.2.1, x22.2.2)
                else
                  Option.bind (fX4_readsNumber 2 2 xl xn x22.2.1 x22.2.2) fun x23 =>
                  if x23.1 = 0 then
                    some (0, x23.2.1, x23.2.2)
                  else
                    some (1, x23.2.1, x23.2.2)) fun ((t19, t20, t21) : Int32 × Int32 × (Nat → Int32)) =>
            if t19 = 0 then
              some (0, t20, t21)
            else
              Option.bind (fX4_here xl xn t20) fun x24 =>
              if x24 = 59 then
                some (1, t20 + 1, t21)
              else
                some (0, t20, t21)
          else
            if x1 = 118 then
              Option.bind (fX4_readsKind xl xn (xp + 1) xu) fun x25 =>
              Option.bind (if x25.1 = 0 then
                  some (0, x25.2.1, x25.2.2)
                else
                  Option.bind (fX4_readsNumber 1 1 xl xn x25.2.1 x25.2.2) fun x29 =>
                  if x29.1 = 0 then
                    some (0, x29.2.1, x29.2.2)
                  else
                    Option.bind (fX4_readsNumber 2 1 xl xn x29.2.1 x29.2.2) fun x30 =>
                    if x30.1 = 0 then
                      some (0, x30.2.1, x30.2.2)
                    else
                      some (1, x30.2.1, x30.2.2)) fun ((t26, t27, t28) : Int32 × Int32 × (Nat → Int32)) =>
              if t26 = 0 then
                some (0, t27, t28)
              else
                Option.bind (fX4_here xl xn t27) fun x31 =>
                if x31 = 59 then
                  some (1, t27 + 1, t28)
                else
                  some (0, t27, t28)
            else
              if x1 = 120 then
                Option.bind (fX4_readsNumber 0 1 xl xn (xp + 1) xu) fun x32 =>
                if x32.1 = 0 then
                  some (0, x32.2.1, x32.2.2)
                else
                  Option.bind (fX4_here xl xn x32.2.1) fun x33 =>
                  if x33 = 59 then
                    some (1, x32.2.1 + 1, x32.2.2)
                  else
                    some (0, x32.2.1, x32.2.2)
              else
                some (0, (xp + 1) - 1, xu)

def rmX4_readsStatement : Room := { frames := 2, cells := 0, slots := 0, locals := 45 }
theorem mbX4_readsStatement_f84 : Cond.fieldLink RX4 84 (TX4 10).1 (TX4 10).2.1 (TX4 10).2.2.1 ∈ wsX4_readsStatement := by decide +kernel
theorem inX4_readsStatement_X4 : ∀ w ∈ wsX40, w ∈ wsX4_readsStatement := by decide +kernel
theorem hdVX4_readsStatement : yX4_readsStatement.cls = RX4 ∧ yX4_readsStatement.cls ≠ "java/lang/invoke/MethodHandle" ∧ yX4_readsStatement.cls ≠ "java/lang/invoke/VarHandle" ∧ (parseMethodDescriptor yX4_readsStatement.desc).map (fun d => d.parameters.length) = some 0 := by decide +kernel
set_option maxHeartbeats 4000000 in
set_option maxRecDepth 100000 in
theorem ctX4_readsStatement {l : Launch} {D : va_G} {cI cJ cQ : ClassId} (ad : Nat → Nat) (xs : (Nat → Int32)) (xm : (Nat → Int32)) (xi : (Nat → Int32)) (xw : (Nat → Int32)) (xh : Int32) (xl : (Nat → Int32)) (xr : (Nat → Int32)) (xe : (Nat → Int32)) (xn : Int32) (xo : Int32) (xp : Int32) (xu : (Nat → Int32)) (xd : Int32)  {res : Int32 × Int32 × (Nat → Int32)} (h : fX4_readsStatement xl xn xp xu = some res) : CtI l D cI cJ cQ yX4_readsStatement wsX4_readsStatement rmX4_readsStatement [.ref (ad 0)] (wMd cI ad xs xm xi xw xh xl xr xe xn xo xp xu xd) res.1 (wMd cI ad xs xm xi xw xh xl xr xe xn xo res.2.1 res.2.2 xd) := by
  refine ctI_of .boolean (cc := cX4_readsStatement) (maxL := 3) (by decide) rfl (Nat.le_of_ble_eq_true rfl) ?_
  intro p e s m args below meth c A Q ls F hK hA RET hH hl
  obtain ⟨hx, hb, hml, hown, hts⟩ := id F
  have hl : lv_has ls 3 [(0, .ref (ad 0))] := hl
  have hf : wpO (fX4_readsStatement xl xn xp xu) (fun v => v = res) := ⟨_, h, rfl⟩
  obtain ⟨H, eH⟩ : ∃ H, H = s.heap := ⟨_, rfl⟩
  obtain ⟨locs, eL⟩ : ∃ locs : List Loc, locs = [] := ⟨_, rfl⟩
  have hH : Hs D A s.heap (wMd cI ad xs xm xi xw xh xl xr xe xn xo xp xu xd) H locs := by rw [eH, eL]; exact hH
  rw [← eL]
  suffices hgo : W p l e rmX4_readsStatement s m args below meth c H locs 0 0 Q (F0 m 0 ls []) by rw [eH] at hgo; exact hgo
  clear eH eL
  refine lv_aload_n hx hb dX4_readsStatement_0 rfl (lv_at hl 0 rfl) ?_
  obtain ⟨x1, hcl, hf⟩ := wp_b hf
  refine k_Vi0 F hK hH hA hl.1 ⟨Nat.zero_le _, Nat.zero_le _⟩ [] [] (ctX4_here ad xs xm xi xw xh xl xr xe xn xo xp xu xd hcl) (cwV 0 hts gX4_readsStatement_X4_here rfl rfl rfl hdVX4_here ⟨Nat.le_of_ble_eq_true rfl, Nat.le_of_ble_eq_true rfl⟩) dX4_readsStatement_1 0 rfl rfl rfl rfl rfl (Nat.le_of_ble_eq_true rfl) rfl (fun H locs hH => ?_)
  have hH : Hs D A s.heap (wMd cI ad xs xm xi xw xh xl xr xe xn xo xp xu xd) H locs := hH
  refine lv_istore_n (lv' := [(1, .int x1), (0, .ref (ad 0))]) hx hb dX4_readsStatement_4 rfl hl (by decide) rfl (fun ls hl => ?_)
  refine lv_aload_n hx hb dX4_readsStatement_5 rfl (lv_at hl 1 rfl) ?_
  refine lv_dup hx hb dX4_readsStatement_6 rfl ?_
  refine k_get (v := .int xp) F hK hH 0 inX4_readsStatement_X4 10 mbX4_readsStatement_f84 dX4_readsStatement_7 rfl rfl (by decide) rfl ?_
  refine lv_iconst (v := 1) hx hb dX4_readsStatement_10 (by decide) ?_
  refine lv_iadd hx hb dX4_readsStatement_11 ?_
  refine k_put (v := .int (xp + 1)) F hK hH 0 inX4_readsStatement_X4 tyX4 tyX4_ok nmX4 10 mbX4_readsStatement_f84 dX4_readsStatement_12 rfl rfl (by decide) rfl rfl rfl (Nat.le_of_ble_eq_true rfl) (fun H locs hH => ?_)
  have hH : Hs D A s.heap (wMd cI ad xs xm xi xw xh xl xr xe xn xo (xp + 1) xu xd) H locs := hH
  refine lv_iload_n hx hb dX4_readsStatement_15 rfl (lv_at hl 0 rfl) ?_
  by_cases hc0 : x1 = 99
  · have hf := wp_t hc0 hf
    refine lv_tableIn (tgt := 120) hx hb dX4_readsStatement_16 (by rw [hc0]; decide) (by rw [hc0]; decide) (by rw [hc0]; try rfl) (by decide) ?_
    refine lv_aload_n hx hb dX4_readsStatement_120 rfl (lv_at hl 1 rfl) ?_
    refine lv_iconst (v := 0) hx hb dX4_readsStatement_121 (by decide) ?_
    refine lv_iconst (v := 2) hx hb dX4_readsStatement_122 (by decide) ?_
    obtain ⟨x2, hcl, hf⟩ := wp_b hf
    refine k_Vi0 F hK hH hA hl.1 ⟨Nat.zero_le _, Nat.zero_le _⟩ [.int 0, .int 2] [] (ctX4_readsNumber ad xs xm xi xw xh xl xr xe xn xo (xp + 1) xu xd 0 2 hcl) (cwV 2 hts gX4_readsStatement_X4_readsNumber rfl rfl rfl hdVX4_readsNumber ⟨Nat.le_of_ble_eq_true rfl, Nat.le_of_ble_eq_true rfl⟩) dX4_readsStatement_123 0 rfl rfl rfl rfl rfl (Nat.le_of_ble_eq_true rfl) rfl (fun H locs hH => ?_)
    have hH : Hs D A s.heap (wMd cI ad xs xm xi xw xh xl xr xe xn xo x2.2.1 x2.2.2 xd) H locs := hH
    refine W.eq (g2 := F0 m 126 ls [.int x2.1]) rfl ?_
    refine join_ (α := Int32 × Int32 × (Nat → Int32)) (fun Φ => ∀ (t3 : Int32) (t4 : Int32) (t5 : (Nat → Int32)) (H : Heap) (locs : List Loc) (ls : Array Slot), Φ (t3, t4, t5) → Hs D A s.heap (wMd cI ad xs xm xi xw xh xl xr xe xn xo t4 t5 xd) H locs → lv_has ls 3 [(0, .ref (ad 0))] → W p l e rmX4_readsStatement s m args below meth c H locs 0 0 Q (F0 m 143 ls [.int t3])) (wp_bb hf) ?_ ?_
    · intro t3 t4 t5 H locs ls hf hH hl
      refine lv_istore_n (lv' := [(2, .int t3), (0, .ref (ad 0))]) hx hb dX4_readsStatement_143 rfl hl (by decide) rfl (fun ls hl => ?_)
      refine lv_goto (tgt := 274) hx hb dX4_readsStatement_144 (by decide) ?_
      refine lv_iload_n hx hb dX4_readsStatement_274 rfl (lv_at hl 0 rfl) ?_
      refine lv_if_eq (tgt := 287) hx hb dX4_readsStatement_275 (by decide) (fun hc => ?_) (fun hc => ?_)
      · have hf := wp_t hc hf
        refine lv_iconst (v := 0) hx hb dX4_readsStatement_287 (by decide) ?_
        have hrs := wp_s hf
        subst hrs
        exact RET H locs ls 288 dX4_readsStatement_288 (by show narrow .boolean (.int 0) = .int 0; rfl) hH
      · have hf := wp_f hc hf
        refine lv_aload_n hx hb dX4_readsStatement_278 rfl (lv_at hl 1 rfl) ?_
        obtain ⟨x7, hcl, hf⟩ := wp_b hf
        refine k_Vi0 F hK hH hA hl.1 ⟨Nat.zero_le _, Nat.zero_le _⟩ [] [] (ctX4_here ad xs xm xi xw xh xl xr xe xn xo t4 t5 xd hcl) (cwV 0 hts gX4_readsStatement_X4_here rfl rfl rfl hdVX4_here ⟨Nat.le_of_ble_eq_true rfl, Nat.le_of_ble_eq_true rfl⟩) dX4_readsStatement_279 0 rfl rfl rfl rfl rfl (Nat.le_of_ble_eq_true rfl) rfl (fun H locs hH => ?_)
        have hH : Hs D A s.heap (wMd cI ad xs xm xi xw xh xl xr xe xn xo t4 t5 xd) H locs := hH
        refine lv_bipush (v := 59) hx hb dX4_readsStatement_282 (by decide) ?_
        refine lv_icmp_eq (tgt := 289) hx hb dX4_readsStatement_284 (by decide) (fun hc => ?_) (fun hc => ?_)
        · have hf := wp_t hc hf
          refine lv_aload_n hx hb dX4_readsStatement_289 rfl (lv_at hl 1 rfl) ?_
          refine lv_dup hx hb dX4_readsStatement_290 rfl ?_
          refine k_get (v := .int t4) F hK hH 0 inX4_readsStatement_X4 10 mbX4_readsStatement_f84 dX4_readsStatement_291 rfl rfl (by decide) rfl ?_
          refine lv_iconst (v := 1) hx hb dX4_readsStatement_294 (by decide) ?_
          refine lv_iadd hx hb dX4_readsStatement_295 ?_
          refine k_put (v := .int (t4 + 1)) F hK hH 0 inX4_readsStatement_X4 tyX4 tyX4_ok nmX4 10 mbX4_readsStatement_f84 dX4_readsStatement_296 rfl rfl (by decide) rfl rfl rfl (Nat.le_of_ble_eq_true rfl) (fun H locs hH => ?_)
          have hH : Hs D A s.heap (wMd cI ad xs xm xi xw xh xl xr xe xn xo (t4 + 1) t5 xd) H locs := hH
          refine lv_iconst (v := 1) hx hb dX4_readsStatement_299 (by decide) ?_
          have hrs := wp_s hf
          subst hrs
          exact RET H locs ls 300 dX4_readsStatement_300 (by show narrow .boolean (.int 1) = .int 1; rfl) hH
        · have hf := wp_f hc hf
          refine lv_iconst (v := 0) hx hb dX4_readsStatement_287 (by decide) ?_
          have hrs := wp_s hf
          subst hrs
          exact RET H locs ls 288 dX4_readsStatement_288 (by show narrow .boolean (.int 0) = .int 0; rfl) hH
    · intro Φ JJ hf
      refine lv_if_eq (tgt := 142) hx hb dX4_readsStatement_126 (by decide) (fun hc => ?_) (fun hc => ?_)
      · have hf := wp_t hc hf
        refine lv_iconst (v := 0) hx hb dX4_readsStatement_142 (by decide) ?_
        have hw := wp_s hf
        exact JJ _ _ _ _ _ _ hw hH (lv_sub hl [1] rfl)
      · have hf := wp_f hc hf
        refine lv_aload_n hx hb dX4_readsStatement_129 rfl (lv_at hl 1 rfl) ?_
        refine lv_iconst (v := 1) hx hb dX4_readsStatement_130 (by decide) ?_
        refine lv_iconst (v := 1) hx hb dX4_readsStatement_131 (by decide) ?_
        obtain ⟨x6, hcl, hf⟩ := wp_b hf
        refine k_Vi0 F hK hH hA hl.1 ⟨Nat.zero_le _, Nat.zero_le _⟩ [.int 1, .int 1] [] (ctX4_readsNumber ad xs xm xi xw xh xl xr xe xn xo x2.2.1 x2.2.2 xd 1 1 hcl) (cwV 2 hts gX4_readsStatement_X4_readsNumber rfl rfl rfl hdVX4_readsNumber ⟨Nat.le_of_ble_eq_true rfl, Nat.le_of_ble_eq_true rfl⟩) dX4_readsStatement_132 0 rfl rfl rfl rfl rfl (Nat.le_of_ble_eq_true rfl) rfl (fun H locs hH => ?_)
        have hH : Hs D A s.heap (wMd cI ad xs xm xi xw xh xl xr xe xn xo x6.2.1 x6.2.2 xd) H locs := hH
        refine W.eq (g2 := F0 m 135 ls [.int x6.1]) rfl ?_
        refine lv_if_eq (tgt := 142) hx hb dX4_readsStatement_135 (by decide) (fun hc => ?_) (fun hc => ?_)
        · have hf := wp_t hc hf
          refine lv_iconst (v := 0) hx hb dX4_readsStatement_142 (by decide) ?_
          have hw := wp_s hf
          exact JJ _ _ _ _ _ _ hw hH (lv_sub hl [1] rfl)
        · have hf := wp_f hc hf
          refine lv_iconst (v := 1) hx hb dX4_readsStatement_138 (by decide) ?_
          refine lv_goto (tgt := 143) hx hb dX4_readsStatement_139 (by decide) ?_
          have hw := wp_s hf
          exact JJ _ _ _ _ _ _ hw hH (lv_sub hl [1] rfl)
  · have hf := wp_f hc0 hf
    by_cases hc1 : x1 = 100
    · have hf := wp_t hc1 hf
      refine lv_tableIn (tgt := 235) hx hb dX4_readsStatement_16 (by rw [hc1]; decide) (by rw [hc1]; decide) (by rw [hc1]; try rfl) (by decide) ?_
      refine lv_aload_n hx hb dX4_readsStatement_235 rfl (lv_at hl 1 rfl) ?_
      refine lv_iconst (v := 0) hx hb dX4_readsStatement_236 (by decide) ?_
      refine lv_iconst (v := 1) hx hb dX4_readsStatement_237 (by decide) ?_
      obtain ⟨x8, hcl, hf⟩ := wp_b hf
      refine k_Vi0 F hK hH hA hl.1 ⟨Nat.zero_le _, Nat.zero_le _⟩ [.int 0, .int 1] [] (ctX4_readsNumber ad xs xm xi xw xh xl xr xe xn xo (xp + 1) xu xd 0 1 hcl) (cwV 2 hts gX4_readsStatement_X4_readsNumber rfl rfl rfl hdVX4_readsNumber ⟨Nat.le_of_ble_eq_true rfl, Nat.le_of_ble_eq_true rfl⟩) dX4_readsStatement_238 0 rfl rfl rfl rfl rfl (Nat.le_of_ble_eq_true rfl) rfl (fun H locs hH => ?_)
      have hH : Hs D A s.heap (wMd cI ad xs xm xi xw xh xl xr xe xn xo x8.2.1 x8.2.2 xd) H locs := hH
      refine W.eq (g2 := F0 m 241 ls [.int x8.1]) rfl ?_
      refine join_ (α := Int32 × Int32 × (Nat → Int32)) (fun Φ => ∀ (t9 : Int32) (t10 : Int32) (t11 : (Nat → Int32)) (H : Heap) (locs : List Loc) (ls : Array Slot), Φ (t9, t10, t11) → Hs D A s.heap (wMd cI ad xs xm xi xw xh xl xr xe xn xo t10 t11 xd) H locs → lv_has ls 3 [(0, .ref (ad 0))] → W p l e rmX4_readsStatement s m args below meth c H locs 0 0 Q (F0 m 258 ls [.int t9])) (wp_bb hf) ?_ ?_
      · intro t9 t10 t11 H locs ls hf hH hl
        refine lv_istore_n (lv' := [(2, .int t9), (0, .ref (ad 0))]) hx hb dX4_readsStatement_258 rfl hl (by decide) rfl (fun ls hl => ?_)
        refine lv_goto (tgt := 274) hx hb dX4_readsStatement_259 (by decide) ?_
        refine lv_iload_n hx hb dX4_readsStatement_274 rfl (lv_at hl 0 rfl) ?_
        refine lv_if_eq (tgt := 287) hx hb dX4_readsStatement_275 (by decide) (fun hc => ?_) (fun hc => ?_)
        · have hf := wp_t hc hf
          refine lv_iconst (v := 0) hx hb dX4_readsStatement_287 (by decide) ?_
          have hrs := wp_s hf
          subst hrs
          exact RET H locs ls 288 dX4_readsStatement_288 (by show narrow .boolean (.int 0) = .int 0; rfl) hH
        · have hf := wp_f hc hf
          refine lv_aload_n hx hb dX4_readsStatement_278 rfl (lv_at hl 1 rfl) ?_
          obtain ⟨x13, hcl, hf⟩ := wp_b hf
          refine k_Vi0 F hK hH hA hl.1 ⟨Nat.zero_le _, Nat.zero_le _⟩ [] [] (ctX4_here ad xs xm xi xw xh xl xr xe xn xo t10 t11 xd hcl) (cwV 0 hts gX4_readsStatement_X4_here rfl rfl rfl hdVX4_here ⟨Nat.le_of_ble_eq_true rfl, Nat.le_of_ble_eq_true rfl⟩) dX4_readsStatement_279 0 rfl rfl rfl rfl rfl (Nat.le_of_ble_eq_true rfl) rfl (fun H locs hH => ?_)
          have hH : Hs D A s.heap (wMd cI ad xs xm xi xw xh xl xr xe xn xo t10 t11 xd) H locs := hH
          refine lv_bipush (v := 59) hx hb dX4_readsStatement_282 (by decide) ?_
          refine lv_icmp_eq (tgt := 289) hx hb dX4_readsStatement_284 (by decide) (fun hc => ?_) (fun hc => ?_)
          · have hf := wp_t hc hf
            refine lv_aload_n hx hb dX4_readsStatement_289 rfl (lv_at hl 1 rfl) ?_
            refine lv_dup hx hb dX4_readsStatement_290 rfl ?_
            refine k_get (v := .int t10) F hK hH 0 inX4_readsStatement_X4 10 mbX4_readsStatement_f84 dX4_readsStatement_291 rfl rfl (by decide) rfl ?_
            refine lv_iconst (v := 1) hx hb dX4_readsStatement_294 (by decide) ?_
            refine lv_iadd hx hb dX4_readsStatement_295 ?_
            refine k_put (v := .int (t10 + 1)) F hK hH 0 inX4_readsStatement_X4 tyX4 tyX4_ok nmX4 10 mbX4_readsStatement_f84 dX4_readsStatement_296 rfl rfl (by decide) rfl rfl rfl (Nat.le_of_ble_eq_true rfl) (fun H locs hH => ?_)
            have hH : Hs D A s.heap (wMd cI ad xs xm xi xw xh xl xr xe xn xo (t10 + 1) t11 xd) H locs := hH
            refine lv_iconst (v := 1) hx hb dX4_readsStatement_299 (by decide) ?_
            have hrs := wp_s hf
            subst hrs
            exact RET H locs ls 300 dX4_readsStatement_300 (by show narrow .boolean (.int 1) = .int 1; rfl) hH
          · have hf := wp_f hc hf
            refine lv_iconst (v := 0) hx hb dX4_readsStatement_287 (by decide) ?_
            have hrs := wp_s hf
            subst hrs
            exact RET H locs ls 288 dX4_readsStatement_288 (by show narrow .boolean (.int 0) = .int 0; rfl) hH
      · intro Φ JJ hf
        refine lv_if_eq (tgt := 257) hx hb dX4_readsStatement_241 (by decide) (fun hc => ?_) (fun hc => ?_)
        · have hf := wp_t hc hf
          refine lv_iconst (v := 0) hx hb dX4_readsStatement_257 (by decide) ?_
          have hw := wp_s hf
          exact JJ _ _ _ _ _ _ hw hH (lv_sub hl [1] rfl)
        · have hf := wp_f hc hf
          refine lv_aload_n hx hb dX4_readsStatement_244 rfl (lv_at hl 1 rfl) ?_
          refine lv_iconst (v := 1) hx hb dX4_readsStatement_245 (by decide) ?_
          refine lv_iconst (v := 2) hx hb dX4_readsStatement_246 (by decide) ?_
          obtain ⟨x12, hcl, hf⟩ := wp_b hf
          refine k_Vi0 F hK hH hA hl.1 ⟨Nat.zero_le _, Nat.zero_le _⟩ [.int 1, .int 2] [] (ctX4_readsNumber ad xs xm xi xw xh xl xr xe xn xo x8.2.1 x8.2.2 xd 1 2 hcl) (cwV 2 hts gX4_readsStatement_X4_readsNumber rfl rfl rfl hdVX4_readsNumber ⟨Nat.le_of_ble_eq_true rfl, Nat.le_of_ble_eq_true rfl⟩) dX4_readsStatement_247 0 rfl rfl rfl rfl rfl (Nat.le_of_ble_eq_true rfl) rfl (fun H locs hH => ?_)
          have hH : Hs D A s.heap (wMd cI ad xs xm xi xw xh xl xr xe xn xo x12.2.1 x12.2.2 xd) H locs := hH
          refine W.eq (g2 := F0 m 250 ls [.int x12.1]) rfl ?_
          refine lv_if_eq (tgt := 257) hx hb dX4_readsStatement_250 (by decide) (fun hc => ?_) (fun hc => ?_)
          · have hf := wp_t hc hf
            refine lv_iconst (v := 0) hx hb dX4_readsStatement_257 (by decide) ?_
            have hw := wp_s hf
            exact JJ _ _ _ _ _ _ hw hH (lv_sub hl [1] rfl)
          · have hf := wp_f hc hf
            refine lv_iconst (v := 1) hx hb dX4_readsStatement_253 (by decide) ?_
            refine lv_goto (tgt := 258) hx hb dX4_readsStatement_254 (by decide) ?_
            have hw := wp_s hf
            exact JJ _ _ _ _ _ _ hw hH (lv_sub hl [1] rfl)
    · have hf := wp_f hc1 hf
      by_cases hc2 : x1 = 101
      · have hf := wp_t hc2 hf
        refine lv_tableIn (tgt := 215) hx hb dX4_readsStatement_16 (by rw [hc2]; decide) (by rw [hc2]; decide) (by rw [hc2]; try rfl) (by decide) ?_
        refine lv_aload_n hx hb dX4_readsStatement_215 rfl (lv_at hl 1 rfl) ?_
        refine lv_iconst (v := 0) hx hb dX4_readsStatement_216 (by decide) ?_
        refine lv_iconst (v := 2) hx hb dX4_readsStatement_217 (by decide) ?_
        obtain ⟨x14, hcl, hf⟩ := wp_b hf
        refine k_Vi0 F hK hH hA hl.1 ⟨Nat.zero_le _, Nat.zero_le _⟩ [.int 0, .int 2] [] (ctX4_readsNumber ad xs xm xi xw xh xl xr xe xn xo (xp + 1) xu xd 0 2 hcl) (cwV 2 hts gX4_readsStatement_X4_readsNumber rfl rfl rfl hdVX4_readsNumber ⟨Nat.le_of_ble_eq_true rfl, Nat.le_of_ble_eq_true rfl⟩) dX4_readsStatement_218 0 rfl rfl rfl rfl rfl (Nat.le_of_ble_eq_true rfl) rfl (fun H locs hH => ?_)
        have hH : Hs D A s.heap (wMd cI ad xs xm xi xw xh xl xr xe xn xo x14.2.1 x14.2.2 xd) H locs := hH
        refine W.eq (g2 := F0 m 221 ls [.int x14.1]) rfl ?_
        refine lv_istore_n (lv' := [(2, .int x14.1), (1, .int x1), (0, .ref (ad 0))]) hx hb dX4_readsStatement_221 rfl hl (by decide) rfl (fun ls hl => ?_)
        refine lv_goto (tgt := 274) hx hb dX4_readsStatement_222 (by decide) ?_
        refine lv_iload_n hx hb dX4_readsStatement_274 rfl (lv_at hl 0 rfl) ?_
        refine lv_if_eq (tgt := 287) hx hb dX4_readsStatement_275 (by decide) (fun hc => ?_) (fun hc => ?_)
        · have hf := wp_t hc hf
          refine lv_iconst (v := 0) hx hb dX4_readsStatement_287 (by decide) ?_
          have hrs := wp_s hf
          subst hrs
          exact RET H locs ls 288 dX4_readsStatement_288 (by show narrow .boolean (.int 0) = .int 0; rfl) hH
        · have hf := wp_f hc hf
          refine lv_aload_n hx hb dX4_readsStatement_278 rfl (lv_at hl 2 rfl) ?_
          obtain ⟨x15, hcl, hf⟩ := wp_b hf
          refine k_Vi0 F hK hH hA hl.1 ⟨Nat.zero_le _, Nat.zero_le _⟩ [] [] (ctX4_here ad xs xm xi xw xh xl xr xe xn xo x14.2.1 x14.2.2 xd hcl) (cwV 0 hts gX4_readsStatement_X4_here rfl rfl rfl hdVX4_here ⟨Nat.le_of_ble_eq_true rfl, Nat.le_of_ble_eq_true rfl⟩) dX4_readsStatement_279 0 rfl rfl rfl rfl rfl (Nat.le_of_ble_eq_true rfl) rfl (fun H locs hH => ?_)
          have hH : Hs D A s.heap (wMd cI ad xs xm xi xw xh xl xr xe xn xo x14.2.1 x14.2.2 xd) H locs := hH
          refine lv_bipush (v := 59) hx hb dX4_readsStatement_282 (by decide) ?_
          refine lv_icmp_eq (tgt := 289) hx hb dX4_readsStatement_284 (by decide) (fun hc => ?_) (fun hc => ?_)
          · have hf := wp_t hc hf
            refine lv_aload_n hx hb dX4_readsStatement_289 rfl (lv_at hl 2 rfl) ?_
            refine lv_dup hx hb dX4_readsStatement_290 rfl ?_
            refine k_get (v := .int x14.2.1) F hK hH 0 inX4_readsStatement_X4 10 mbX4_readsStatement_f84 dX4_readsStatement_291 rfl rfl (by decide) rfl ?_
            refine lv_iconst (v := 1) hx hb dX4_readsStatement_294 (by decide) ?_
            refine lv_iadd hx hb dX4_readsStatement_295 ?_
            refine k_put (v := .int (x14.2.1 + 1)) F hK hH 0 inX4_readsStatement_X4 tyX4 tyX4_ok nmX4 10 mbX4_readsStatement_f84 dX4_readsStatement_296 rfl rfl (by decide) rfl rfl rfl (Nat.le_of_ble_eq_true rfl) (fun H locs hH => ?_)
            have hH : Hs D A s.heap (wMd cI ad xs xm xi xw xh xl xr xe xn xo (x14.2.1 + 1) x14.2.2 xd) H locs := hH
            refine lv_iconst (v := 1) hx hb dX4_readsStatement_299 (by decide) ?_
            have hrs := wp_s hf
            subst hrs
            exact RET H locs ls 300 dX4_readsStatement_300 (by show narrow .boolean (.int 1) = .int 1; rfl) hH
          · have hf := wp_f hc hf
            refine lv_iconst (v := 0) hx hb dX4_readsStatement_287 (by decide) ?_
            have hrs := wp_s hf
            subst hrs
            exact RET H locs ls 288 dX4_readsStatement_288 (by show narrow .boolean (.int 0) = .int 0; rfl) hH
      · have hf := wp_f hc2 hf
        by_cases hc3 : x1 = 104
        · have hf := wp_t hc3 hf
          refine lv_tableIn (tgt := 215) hx hb dX4_readsStatement_16 (by rw [hc3]; decide) (by rw [hc3]; decide) (by rw [hc3]; try rfl) (by decide) ?_
          refine lv_aload_n hx hb dX4_readsStatement_215 rfl (lv_at hl 1 rfl) ?_
          refine lv_iconst (v := 0) hx hb dX4_readsStatement_216 (by decide) ?_
          refine lv_iconst (v := 2) hx hb dX4_readsStatement_217 (by decide) ?_
          obtain ⟨x16, hcl, hf⟩ := wp_b hf
          refine k_Vi0 F hK hH hA hl.1 ⟨Nat.zero_le _, Nat.zero_le _⟩ [.int 0, .int 2] [] (ctX4_readsNumber ad xs xm xi xw xh xl xr xe xn xo (xp + 1) xu xd 0 2 hcl) (cwV 2 hts gX4_readsStatement_X4_readsNumber rfl rfl rfl hdVX4_readsNumber ⟨Nat.le_of_ble_eq_true rfl, Nat.le_of_ble_eq_true rfl⟩) dX4_readsStatement_218 0 rfl rfl rfl rfl rfl (Nat.le_of_ble_eq_true rfl) rfl (fun H locs hH => ?_)
          have hH : Hs D A s.heap (wMd cI ad xs xm xi xw xh xl xr xe xn xo x16.2.1 x16.2.2 xd) H locs := hH
          refine W.eq (g2 := F0 m 221 ls [.int x16.1]) rfl ?_
          refine lv_istore_n (lv' := [(2, .int x16.1), (1, .int x1), (0, .ref (ad 0))]) hx hb dX4_readsStatement_221 rfl hl (by decide) rfl (fun ls hl => ?_)
          refine lv_goto (tgt := 274) hx hb dX4_readsStatement_222 (by decide) ?_
          refine lv_iload_n hx hb dX4_readsStatement_274 rfl (lv_at hl 0 rfl) ?_
          refine lv_if_eq (tgt := 287) hx hb dX4_readsStatement_275 (by decide) (fun hc => ?_) (fun hc => ?_)
          · have hf := wp_t hc hf
            refine lv_iconst (v := 0) hx hb dX4_readsStatement_287 (by decide) ?_
            have hrs := wp_s hf
            subst hrs
            exact RET H locs ls 288 dX4_readsStatement_288 (by show narrow .boolean (.int 0) = .int 0; rfl) hH
          · have hf := wp_f hc hf
            refine lv_aload_n hx hb dX4_readsStatement_278 rfl (lv_at hl 2 rfl) ?_
            obtain ⟨x17, hcl, hf⟩ := wp_b hf
            refine k_Vi0 F hK hH hA hl.1 ⟨Nat.zero_le _, Nat.zero_le _⟩ [] [] (ctX4_here ad xs xm xi xw xh xl xr xe xn xo x16.2.1 x16.2.2 xd hcl) (cwV 0 hts gX4_readsStatement_X4_here rfl rfl rfl hdVX4_here ⟨Nat.le_of_ble_eq_true rfl, Nat.le_of_ble_eq_true rfl⟩) dX4_readsStatement_279 0 rfl rfl rfl rfl rfl (Nat.le_of_ble_eq_true rfl) rfl (fun H locs hH => ?_)
            have hH : Hs D A s.heap (wMd cI ad xs xm xi xw xh xl xr xe xn xo x16.2.1 x16.2.2 xd) H locs := hH
            refine lv_bipush (v := 59) hx hb dX4_readsStatement_282 (by decide) ?_
            refine lv_icmp_eq (tgt := 289) hx hb dX4_readsStatement_284 (by decide) (fun hc => ?_) (fun hc => ?_)
            · have hf := wp_t hc hf
              refine lv_aload_n hx hb dX4_readsStatement_289 rfl (lv_at hl 2 rfl) ?_
              refine lv_dup hx hb dX4_readsStatement_290 rfl ?_
              refine k_get (v := .int x16.2.1) F hK hH 0 inX4_readsStatement_X4 10 mbX4_readsStatement_f84 dX4_readsStatement_291 rfl rfl (by decide) rfl ?_
              refine lv_iconst (v := 1) hx hb dX4_readsStatement_294 (by decide) ?_
              refine lv_iadd hx hb dX4_readsStatement_295 ?_
              refine k_put (v := .int (x16.2.1 + 1)) F hK hH 0 inX4_readsStatement_X4 tyX4 tyX4_ok nmX4 10 mbX4_readsStatement_f84 dX4_readsStatement_296 rfl rfl (by decide) rfl rfl rfl (Nat.le_of_ble_eq_true rfl) (fun H locs hH => ?_)
              have hH : Hs D A s.heap (wMd cI ad xs xm xi xw xh xl xr xe xn xo (x16.2.1 + 1) x16.2.2 xd) H locs := hH
              refine lv_iconst (v := 1) hx hb dX4_readsStatement_299 (by decide) ?_
              have hrs := wp_s hf
              subst hrs
              exact RET H locs ls 300 dX4_readsStatement_300 (by show narrow .boolean (.int 1) = .int 1; rfl) hH
            · have hf := wp_f hc hf
              refine lv_iconst (v := 0) hx hb dX4_readsStatement_287 (by decide) ?_
              have hrs := wp_s hf
              subst hrs
              exact RET H locs ls 288 dX4_readsStatement_288 (by show narrow .boolean (.int 0) = .int 0; rfl) hH
        · have hf := wp_f hc3 hf
          by_cases hc4 : x1 = 116
          · have hf := wp_t hc4 hf
            refine lv_tableIn (tgt := 147) hx hb dX4_readsStatement_16 (by rw [hc4]; decide) (by rw [hc4]; decide) (by rw [hc4]; try rfl) (by decide) ?_
            refine lv_aload_n hx hb dX4_readsStatement_147 rfl (lv_at hl 1 rfl) ?_
            obtain ⟨x18, hcl, hf⟩ := wp_b hf
            refine k_Vi0 F hK hH hA hl.1 ⟨Nat.zero_le _, Nat.zero_le _⟩ [] [] (ctX4_readsKind ad xs xm xi xw xh xl xr xe xn xo (xp + 1) xu xd hcl) (cwV 0 hts gX4_readsStatement_X4_readsKind rfl rfl rfl hdVX4_readsKind ⟨Nat.le_of_ble_eq_true rfl, Nat.le_of_ble_eq_true rfl⟩) dX4_readsStatement_148 0 rfl rfl rfl rfl rfl (Nat.le_of_ble_eq_true rfl) rfl (fun H locs hH => ?_)
            have hH : Hs D A s.heap (wMd cI ad xs xm xi xw xh xl xr xe xn xo x18.2.1 x18.2.2 xd) H locs := hH
            refine W.eq (g2 := F0 m 151 ls [.int x18.1]) rfl ?_
            refine join_ (α := Int32 × Int32 × (Nat → Int32)) (fun Φ => ∀ (t19 : Int32) (t20 : Int32) (t21 : (Nat → Int32)) (H : Heap) (locs : List Loc) (ls : Array Slot), Φ (t19, t20, t21) → Hs D A s.heap (wMd cI ad xs xm xi xw xh xl xr xe xn xo t20 t21 xd) H locs → lv_has ls 3 [(0, .ref (ad 0))] → W p l e rmX4_readsStatement s m args below meth c H locs 0 0 Q (F0 m 177 ls [.int t19])) (wp_bb hf) ?_ ?_
            · intro t19 t20 t21 H locs ls hf hH hl
              refine lv_istore_n (lv' := [(2, .int t19), (0, .ref (ad 0))]) hx hb dX4_readsStatement_177 rfl hl (by decide) rfl (fun ls hl => ?_)
              refine lv_goto (tgt := 274) hx hb dX4_readsStatement_178 (by decide) ?_
              refine lv_iload_n hx hb dX4_readsStatement_274 rfl (lv_at hl 0 rfl) ?_
              refine lv_if_eq (tgt := 287) hx hb dX4_readsStatement_275 (by decide) (fun hc => ?_) (fun hc => ?_)
              · have hf := wp_t hc hf
                refine lv_iconst (v := 0) hx hb dX4_readsStatement_287 (by decide) ?_
                have hrs := wp_s hf
                subst hrs
                exact RET H locs ls 288 dX4_readsStatement_288 (by show narrow .boolean (.int 0) = .int 0; rfl) hH
              · have hf := wp_f hc hf
                refine lv_aload_n hx hb dX4_readsStatement_278 rfl (lv_at hl 1 rfl) ?_
                obtain ⟨x24, hcl, hf⟩ := wp_b hf
                refine k_Vi0 F hK hH hA hl.1 ⟨Nat.zero_le _, Nat.zero_le _⟩ [] [] (ctX4_here ad xs xm xi xw xh xl xr xe xn xo t20 t21 xd hcl) (cwV 0 hts gX4_readsStatement_X4_here rfl rfl rfl hdVX4_here ⟨Nat.le_of_ble_eq_true rfl, Nat.le_of_ble_eq_true rfl⟩) dX4_readsStatement_279 0 rfl rfl rfl rfl rfl (Nat.le_of_ble_eq_true rfl) rfl (fun H locs hH => ?_)
                have hH : Hs D A s.heap (wMd cI ad xs xm xi xw xh xl xr xe xn xo t20 t21 xd) H locs := hH
                refine lv_bipush (v := 59) hx hb dX4_readsStatement_282 (by decide) ?_
                refine lv_icmp_eq (tgt := 289) hx hb dX4_readsStatement_284 (by decide) (fun hc => ?_) (fun hc => ?_)
                · have hf := wp_t hc hf
                  refine lv_aload_n hx hb dX4_readsStatement_289 rfl (lv_at hl 1 rfl) ?_
                  refine lv_dup hx hb dX4_readsStatement_290 rfl ?_
                  refine k_get (v := .int t20) F hK hH 0 inX4_readsStatement_X4 10 mbX4_readsStatement_f84 dX4_readsStatement_291 rfl rfl (by decide) rfl ?_
                  refine lv_iconst (v := 1) hx hb dX4_readsStatement_294 (by decide) ?_
                  refine lv_iadd hx hb dX4_readsStatement_295 ?_
                  refine k_put (v := .int (t20 + 1)) F hK hH 0 inX4_readsStatement_X4 tyX4 tyX4_ok nmX4 10 mbX4_readsStatement_f84 dX4_readsStatement_296 rfl rfl (by decide) rfl rfl rfl (Nat.le_of_ble_eq_true rfl) (fun H locs hH => ?_)
                  have hH : Hs D A s.heap (wMd cI ad xs xm xi xw xh xl xr xe xn xo (t20 + 1) t21 xd) H locs := hH
                  refine lv_iconst (v := 1) hx hb dX4_readsStatement_299 (by decide) ?_
                  have hrs := wp_s hf
                  subst hrs
                  exact RET H locs ls 300 dX4_readsStatement_300 (by show narrow .boolean (.int 1) = .int 1; rfl) hH
                · have hf := wp_f hc hf
                  refine lv_iconst (v := 0) hx hb dX4_readsStatement_287 (by decide) ?_
                  have hrs := wp_s hf
                  subst hrs
                  exact RET H locs ls 288 dX4_readsStatement_288 (by show narrow .boolean (.int 0) = .int 0; rfl) hH
            · intro Φ JJ hf
              refine lv_if_eq (tgt := 176) hx hb dX4_readsStatement_151 (by decide) (fun hc => ?_) (fun hc => ?_)
              · have hf := wp_t hc hf
                refine lv_iconst (v := 0) hx hb dX4_readsStatement_176 (by decide) ?_
                have hw := wp_s hf
                exact JJ _ _ _ _ _ _ hw hH (lv_sub hl [1] rfl)
              · have hf := wp_f hc hf
                refine lv_aload_n hx hb dX4_readsStatement_154 rfl (lv_at hl 1 rfl) ?_
                refine lv_iconst (v := 1) hx hb dX4_readsStatement_155 (by decide) ?_
                refine lv_iconst (v := 1) hx hb dX4_readsStatement_156 (by decide) ?_
                obtain ⟨x22, hcl, hf⟩ := wp_b hf
                refine k_Vi0 F hK hH hA hl.1 ⟨Nat.zero_le _, Nat.zero_le _⟩ [.int 1, .int 1] [] (ctX4_readsNumber ad xs xm xi xw xh xl xr xe xn xo x18.2.1 x18.2.2 xd 1 1 hcl) (cwV 2 hts gX4_readsStatement_X4_readsNumber rfl rfl rfl hdVX4_readsNumber ⟨Nat.le_of_ble_eq_true rfl, Nat.le_of_ble_eq_true rfl⟩) dX4_readsStatement_157 0 rfl rfl rfl rfl rfl (Nat.le_of_ble_eq_true rfl) rfl (fun H locs hH => ?_)
                have hH : Hs D A s.heap (wMd cI ad xs xm xi xw xh xl xr xe xn xo x22.2.1 x22.2.2 xd) H locs := hH
                refine W.eq (g2 := F0 m 160 ls [.int x22.1]) rfl ?_
                refine lv_if_eq (tgt := 176) hx hb dX4_readsStatement_160 (by decide) (fun hc => ?_) (fun hc => ?_)
                · have hf := wp_t hc hf
                  refine lv_iconst (v := 0) hx hb dX4_readsStatement_176 (by decide) ?_
                  have hw := wp_s hf
                  exact JJ _ _ _ _ _ _ hw hH (lv_sub hl [1] rfl)
                · have hf := wp_f hc hf
                  refine lv_aload_n hx hb dX4_readsStatement_163 rfl (lv_at hl 1 rfl) ?_
                  refine lv_iconst (v := 2) hx hb dX4_readsStatement_164 (by decide) ?_
                  refine lv_iconst (v := 2) hx hb dX4_readsStatement_165 (by decide) ?_
                  obtain ⟨x23, hcl, hf⟩ := wp_b hf
                  refine k_Vi0 F hK hH hA hl.1 ⟨Nat.zero_le _, Nat.zero_le _⟩ [.int 2, .int 2] [] (ctX4_readsNumber ad xs xm xi xw xh xl xr xe xn xo x22.2.1 x22.2.2 xd 2 2 hcl) (cwV 2 hts gX4_readsStatement_X4_readsNumber rfl rfl rfl hdVX4_readsNumber ⟨Nat.le_of_ble_eq_true rfl, Nat.le_of_ble_eq_true rfl⟩) dX4_readsStatement_166 0 rfl rfl rfl rfl rfl (Nat.le_of_ble_eq_true rfl) rfl (fun H locs hH => ?_)
                  have hH : Hs D A s.heap (wMd cI ad xs xm xi xw xh xl xr xe xn xo x23.2.1 x23.2.2 xd) H locs := hH
                  refine W.eq (g2 := F0 m 169 ls [.int x23.1]) rfl ?_
                  refine lv_if_eq (tgt := 176) hx hb dX4_readsStatement_169 (by decide) (fun hc => ?_) (fun hc => ?_)
                  · have hf := wp_t hc hf
                    refine lv_iconst (v := 0) hx hb dX4_readsStatement_176 (by decide) ?_
                    have hw := wp_s hf
                    exact JJ _ _ _ _ _ _ hw hH (lv_sub hl [1] rfl)
                  · have hf := wp_f hc hf
                    refine lv_iconst (v := 1) hx hb dX4_readsStatement_172 (by decide) ?_
                    refine lv_goto (tgt := 177) hx hb dX4_readsStatement_173 (by decide) ?_
                    have hw := wp_s hf
                    exact JJ _ _ _ _ _ _ hw hH (lv_sub hl [1] rfl)
          · have hf := wp_f hc4 hf
            by_cases hc5 : x1 = 118
            · have hf := wp_t hc5 hf
              refine lv_tableIn (tgt := 181) hx hb dX4_readsStatement_16 (by rw [hc5]; decide) (by rw [hc5]; decide) (by rw [hc5]; try rfl) (by decide) ?_
              refine lv_aload_n hx hb dX4_readsStatement_181 rfl (lv_at hl 1 rfl) ?_
              obtain ⟨x25, hcl, hf⟩ := wp_b hf
              refine k_Vi0 F hK hH hA hl.1 ⟨Nat.zero_le _, Nat.zero_le _⟩ [] [] (ctX4_readsKind ad xs xm xi xw xh xl xr xe xn xo (xp + 1) xu xd hcl) (cwV 0 hts gX4_readsStatement_X4_readsKind rfl rfl rfl hdVX4_readsKind ⟨Nat.le_of_ble_eq_true rfl, Nat.le_of_ble_eq_true rfl⟩) dX4_readsStatement_182 0 rfl rfl rfl rfl rfl (Nat.le_of_ble_eq_true rfl) rfl (fun H locs hH => ?_)
              have hH : Hs D A s.heap (wMd cI ad xs xm xi xw xh xl xr xe xn xo x25.2.1 x25.2.2 xd) H locs := hH
              refine W.eq (g2 := F0 m 185 ls [.int x25.1]) rfl ?_
              refine join_ (α := Int32 × Int32 × (Nat → Int32)) (fun Φ => ∀ (t26 : Int32) (t27 : Int32) (t28 : (Nat → Int32)) (H : Heap) (locs : List Loc) (ls : Array Slot), Φ (t26, t27, t28) → Hs D A s.heap (wMd cI ad xs xm xi xw xh xl xr xe xn xo t27 t28 xd) H locs → lv_has ls 3 [(0, .ref (ad 0))] → W p l e rmX4_readsStatement s m args below meth c H locs 0 0 Q (F0 m 211 ls [.int t26])) (wp_bb hf) ?_ ?_
              · intro t26 t27 t28 H locs ls hf hH hl
                refine lv_istore_n (lv' := [(2, .int t26), (0, .ref (ad 0))]) hx hb dX4_readsStatement_211 rfl hl (by decide) rfl (fun ls hl => ?_)
                refine lv_goto (tgt := 274) hx hb dX4_readsStatement_212 (by decide) ?_
                refine lv_iload_n hx hb dX4_readsStatement_274 rfl (lv_at hl 0 rfl) ?_
                refine lv_if_eq (tgt := 287) hx hb dX4_readsStatement_275 (by decide) (fun hc => ?_) (fun hc => ?_)
                · have hf := wp_t hc hf
                  refine lv_iconst (v := 0) hx hb dX4_readsStatement_287 (by decide) ?_
                  have hrs := wp_s hf
                  subst hrs
                  exact RET H locs ls 288 dX4_readsStatement_288 (by show narrow .boolean (.int 0) = .int 0; rfl) hH
                · have hf := wp_f hc hf
                  refine lv_aload_n hx hb dX4_readsStatement_278 rfl (lv_at hl 1 rfl) ?_
                  obtain ⟨x31, hcl, hf⟩ := wp_b hf
                  refine k_Vi0 F hK hH hA hl.1 ⟨Nat.zero_le _, Nat.zero_le _⟩ [] [] (ctX4_here ad xs xm xi xw xh xl xr xe xn xo t27 t28 xd hcl) (cwV 0 hts gX4_readsStatement_X4_here rfl rfl rfl hdVX4_here ⟨Nat.le_of_ble_eq_true rfl, Nat.le_of_ble_eq_true rfl⟩) dX4_readsStatement_279 0 rfl rfl rfl rfl rfl (Nat.le_of_ble_eq_true rfl) rfl (fun H locs hH => ?_)
                  have hH : Hs D A s.heap (wMd cI ad xs xm xi xw xh xl xr xe xn xo t27 t28 xd) H locs := hH
                  refine lv_bipush (v := 59) hx hb dX4_readsStatement_282 (by decide) ?_
                  refine lv_icmp_eq (tgt := 289) hx hb dX4_readsStatement_284 (by decide) (fun hc => ?_) (fun hc => ?_)
                  · have hf := wp_t hc hf
                    refine lv_aload_n hx hb dX4_readsStatement_289 rfl (lv_at hl 1 rfl) ?_
                    refine lv_dup hx hb dX4_readsStatement_290 rfl ?_
                    refine k_get (v := .int t27) F hK hH 0 inX4_readsStatement_X4 10 mbX4_readsStatement_f84 dX4_readsStatement_291 rfl rfl (by decide) rfl ?_
                    refine lv_iconst (v := 1) hx hb dX4_readsStatement_294 (by decide) ?_
                    refine lv_iadd hx hb dX4_readsStatement_295 ?_
                    refine k_put (v := .int (t27 + 1)) F hK hH 0 inX4_readsStatement_X4 tyX4 tyX4_ok nmX4 10 mbX4_readsStatement_f84 dX4_readsStatement_296 rfl rfl (by decide) rfl rfl rfl (Nat.le_of_ble_eq_true rfl) (fun H locs hH => ?_)
                    have hH : Hs D A s.heap (wMd cI ad xs xm xi xw xh xl xr xe xn xo (t27 + 1) t28 xd) H locs := hH
                    refine lv_iconst (v := 1) hx hb dX4_readsStatement_299 (by decide) ?_
                    have hrs := wp_s hf
                    subst hrs
                    exact RET H locs ls 300 dX4_readsStatement_300 (by show narrow .boolean (.int 1) = .int 1; rfl) hH
                  · have hf := wp_f hc hf
                    refine lv_iconst (v := 0) hx hb dX4_readsStatement_287 (by decide) ?_
                    have hrs := wp_s hf
                    subst hrs
                    exact RET H locs ls 288 dX4_readsStatement_288 (by show narrow .boolean (.int 0) = .int 0; rfl) hH
              · intro Φ JJ hf
                refine lv_if_eq (tgt := 210) hx hb dX4_readsStatement_185 (by decide) (fun hc => ?_) (fun hc => ?_)
                · have hf := wp_t hc hf
                  refine lv_iconst (v := 0) hx hb dX4_readsStatement_210 (by decide) ?_
                  have hw := wp_s hf
                  exact JJ _ _ _ _ _ _ hw hH (lv_sub hl [1] rfl)
                · have hf := wp_f hc hf
                  refine lv_aload_n hx hb dX4_readsStatement_188 rfl (lv_at hl 1 rfl) ?_
                  refine lv_iconst (v := 1) hx hb dX4_readsStatement_189 (by decide) ?_
                  refine lv_iconst (v := 1) hx hb dX4_readsStatement_190 (by decide) ?_
                  obtain ⟨x29, hcl, hf⟩ := wp_b hf
                  refine k_Vi0 F hK hH hA hl.1 ⟨Nat.zero_le _, Nat.zero_le _⟩ [.int 1, .int 1] [] (ctX4_readsNumber ad xs xm xi xw xh xl xr xe xn xo x25.2.1 x25.2.2 xd 1 1 hcl) (cwV 2 hts gX4_readsStatement_X4_readsNumber rfl rfl rfl hdVX4_readsNumber ⟨Nat.le_of_ble_eq_true rfl, Nat.le_of_ble_eq_true rfl⟩) dX4_readsStatement_191 0 rfl rfl rfl rfl rfl (Nat.le_of_ble_eq_true rfl) rfl (fun H locs hH => ?_)
                  have hH : Hs D A s.heap (wMd cI ad xs xm xi xw xh xl xr xe xn xo x29.2.1 x29.2.2 xd) H locs := hH
                  refine W.eq (g2 := F0 m 194 ls [.int x29.1]) rfl ?_
                  refine lv_if_eq (tgt := 210) hx hb dX4_readsStatement_194 (by decide) (fun hc => ?_) (fun hc => ?_)
                  · have hf := wp_t hc hf
                    refine lv_iconst (v := 0) hx hb dX4_readsStatement_210 (by decide) ?_
                    have hw := wp_s hf
                    exact JJ _ _ _ _ _ _ hw hH (lv_sub hl [1] rfl)
                  · have hf := wp_f hc hf
                    refine lv_aload_n hx hb dX4_readsStatement_197 rfl (lv_at hl 1 rfl) ?_
                    refine lv_iconst (v := 2) hx hb dX4_readsStatement_198 (by decide) ?_
                    refine lv_iconst (v := 1) hx hb dX4_readsStatement_199 (by decide) ?_
                    obtain ⟨x30, hcl, hf⟩ := wp_b hf
                    refine k_Vi0 F hK hH hA hl.1 ⟨Nat.zero_le _, Nat.zero_le _⟩ [.int 2, .int 1] [] (ctX4_readsNumber ad xs xm xi xw xh xl xr xe xn xo x29.2.1 x29.2.2 xd 2 1 hcl) (cwV 2 hts gX4_readsStatement_X4_readsNumber rfl rfl rfl hdVX4_readsNumber ⟨Nat.le_of_ble_eq_true rfl, Nat.le_of_ble_eq_true rfl⟩) dX4_readsStatement_200 0 rfl rfl rfl rfl rfl (Nat.le_of_ble_eq_true rfl) rfl (fun H locs hH => ?_)
                    have hH : Hs D A s.heap (wMd cI ad xs xm xi xw xh xl xr xe xn xo x30.2.1 x30.2.2 xd) H locs := hH
                    refine W.eq (g2 := F0 m 203 ls [.int x30.1]) rfl ?_
                    refine lv_if_eq (tgt := 210) hx hb dX4_readsStatement_203 (by decide) (fun hc => ?_) (fun hc => ?_)
                    · have hf := wp_t hc hf
                      refine lv_iconst (v := 0) hx hb dX4_readsStatement_210 (by decide) ?_
                      have hw := wp_s hf
                      exact JJ _ _ _ _ _ _ hw hH (lv_sub hl [1] rfl)
                    · have hf := wp_f hc hf
                      refine lv_iconst (v := 1) hx hb dX4_readsStatement_206 (by decide) ?_
                      refine lv_goto (tgt := 211) hx hb dX4_readsStatement_207 (by decide) ?_
                      have hw := wp_s hf
                      exact JJ _ _ _ _ _ _ hw hH (lv_sub hl [1] rfl)
            · have hf := wp_f hc5 hf
              by_cases hc6 : x1 = 120
              · have hf := wp_t hc6 hf
                refine lv_tableIn (tgt := 225) hx hb dX4_readsStatement_16 (by rw [hc6]; decide) (by rw [hc6]; decide) (by rw [hc6]; try rfl) (by decide) ?_
                refine lv_aload_n hx hb dX4_readsStatement_225 rfl (lv_at hl 1 rfl) ?_
                refine lv_iconst (v := 0) hx hb dX4_readsStatement_226 (by decide) ?_
                refine lv_iconst (v := 1) hx hb dX4_readsStatement_227 (by decide) ?_
                obtain ⟨x32, hcl, hf⟩ := wp_b hf
                refine k_Vi0 F hK hH hA hl.1 ⟨Nat.zero_le _, Nat.zero_le _⟩ [.int 0, .int 1] [] (ctX4_readsNumber ad xs xm xi xw xh xl xr xe xn xo (xp + 1) xu xd 0 1 hcl) (cwV 2 hts gX4_readsStatement_X4_readsNumber rfl rfl rfl hdVX4_readsNumber ⟨Nat.le_of_ble_eq_true rfl, Nat.le_of_ble_eq_true rfl⟩) dX4_readsStatement_228 0 rfl rfl rfl rfl rfl (Nat.le_of_ble_eq_true rfl) rfl (fun H locs hH => ?_)
                have hH : Hs D A s.heap (wMd cI ad xs xm xi xw xh xl xr xe xn xo x32.2.1 x32.2.2 xd) H locs := hH
                refine W.eq (g2 := F0 m 231 ls [.int x32.1]) rfl ?_
                refine lv_istore_n (lv' := [(2, .int x32.1), (1, .int x1), (0, .ref (ad 0))]) hx hb dX4_readsStatement_231 rfl hl (by decide) rfl (fun ls hl => ?_)
                refine lv_goto (tgt := 274) hx hb dX4_readsStatement_232 (by decide) ?_
                refine lv_iload_n hx hb dX4_readsStatement_274 rfl (lv_at hl 0 rfl) ?_
                refine lv_if_eq (tgt := 287) hx hb dX4_readsStatement_275 (by decide) (fun hc => ?_) (fun hc => ?_)
                · have hf := wp_t hc hf
                  refine lv_iconst (v := 0) hx hb dX4_readsStatement_287 (by decide) ?_
                  have hrs := wp_s hf
                  subst hrs
                  exact RET H locs ls 288 dX4_readsStatement_288 (by show narrow .boolean (.int 0) = .int 0; rfl) hH
                · have hf := wp_f hc hf
                  refine lv_aload_n hx hb dX4_readsStatement_278 rfl (lv_at hl 2 rfl) ?_
                  obtain ⟨x33, hcl, hf⟩ := wp_b hf
                  refine k_Vi0 F hK hH hA hl.1 ⟨Nat.zero_le _, Nat.zero_le _⟩ [] [] (ctX4_here ad xs xm xi xw xh xl xr xe xn xo x32.2.1 x32.2.2 xd hcl) (cwV 0 hts gX4_readsStatement_X4_here rfl rfl rfl hdVX4_here ⟨Nat.le_of_ble_eq_true rfl, Nat.le_of_ble_eq_true rfl⟩) dX4_readsStatement_279 0 rfl rfl rfl rfl rfl (Nat.le_of_ble_eq_true rfl) rfl (fun H locs hH => ?_)
                  have hH : Hs D A s.heap (wMd cI ad xs xm xi xw xh xl xr xe xn xo x32.2.1 x32.2.2 xd) H locs := hH
                  refine lv_bipush (v := 59) hx hb dX4_readsStatement_282 (by decide) ?_
                  refine lv_icmp_eq (tgt := 289) hx hb dX4_readsStatement_284 (by decide) (fun hc => ?_) (fun hc => ?_)
                  · have hf := wp_t hc hf
                    refine lv_aload_n hx hb dX4_readsStatement_289 rfl (lv_at hl 2 rfl) ?_
                    refine lv_dup hx hb dX4_readsStatement_290 rfl ?_
                    refine k_get (v := .int x32.2.1) F hK hH 0 inX4_readsStatement_X4 10 mbX4_readsStatement_f84 dX4_readsStatement_291 rfl rfl (by decide) rfl ?_
                    refine lv_iconst (v := 1) hx hb dX4_readsStatement_294 (by decide) ?_
                    refine lv_iadd hx hb dX4_readsStatement_295 ?_
                    refine k_put (v := .int (x32.2.1 + 1)) F hK hH 0 inX4_readsStatement_X4 tyX4 tyX4_ok nmX4 10 mbX4_readsStatement_f84 dX4_readsStatement_296 rfl rfl (by decide) rfl rfl rfl (Nat.le_of_ble_eq_true rfl) (fun H locs hH => ?_)
                    have hH : Hs D A s.heap (wMd cI ad xs xm xi xw xh xl xr xe xn xo (x32.2.1 + 1) x32.2.2 xd) H locs := hH
                    refine lv_iconst (v := 1) hx hb dX4_readsStatement_299 (by decide) ?_
                    have hrs := wp_s hf
                    subst hrs
                    exact RET H locs ls 300 dX4_readsStatement_300 (by show narrow .boolean (.int 1) = .int 1; rfl) hH
                  · have hf := wp_f hc hf
                    refine lv_iconst (v := 0) hx hb dX4_readsStatement_287 (by decide) ?_
                    have hrs := wp_s hf
                    subst hrs
                    exact RET H locs ls 288 dX4_readsStatement_288 (by show narrow .boolean (.int 0) = .int 0; rfl) hH
              · have hf := wp_f hc6 hf
                have hs0 := sw_ne hc0 (show (99 : Int32).toInt = 99 from rfl)
                have hs1 := sw_ne hc1 (show (100 : Int32).toInt = 100 from rfl)
                have hs2 := sw_ne hc2 (show (101 : Int32).toInt = 101 from rfl)
                have hs3 := sw_ne hc3 (show (104 : Int32).toInt = 104 from rfl)
                have hs4 := sw_ne hc4 (show (116 : Int32).toInt = 116 from rfl)
                have hs5 := sw_ne hc5 (show (118 : Int32).toInt = 118 from rfl)
                have hs6 := sw_ne hc6 (show (120 : Int32).toInt = 120 from rfl)
                have JD : W p l e rmX4_readsStatement s m args below meth c H locs 0 0 Q (F0 m 262 ls []) := by
                  refine lv_aload_n hx hb dX4_readsStatement_262 rfl (lv_at hl 1 rfl) ?_
                  refine lv_dup hx hb dX4_readsStatement_263 rfl ?_
                  refine k_get (v := .int (xp + 1)) F hK hH 0 inX4_readsStatement_X4 10 mbX4_readsStatement_f84 dX4_readsStatement_264 rfl rfl (by decide) rfl ?_
                  refine lv_iconst (v := 1) hx hb dX4_readsStatement_267 (by decide) ?_
                  refine lv_isub hx hb dX4_readsStatement_268 ?_
                  refine k_put (v := .int ((xp + 1) - 1)) F hK hH 0 inX4_readsStatement_X4 tyX4 tyX4_ok nmX4 10 mbX4_readsStatement_f84 dX4_readsStatement_269 rfl rfl (by decide) rfl rfl rfl (Nat.le_of_ble_eq_true rfl) (fun H locs hH => ?_)
                  have hH : Hs D A s.heap (wMd cI ad xs xm xi xw xh xl xr xe xn xo ((xp + 1) - 1) xu xd) H locs := hH
                  refine lv_iconst (v := 0) hx hb dX4_readsStatement_272 (by decide) ?_
                  have hrs := wp_s hf
                  subst hrs
                  exact RET H locs ls 273 dX4_readsStatement_273 (by show narrow .boolean (.int 0) = .int 0; rfl) hH
                refine sw_def (x := x1) hx hb dX4_readsStatement_16 (by decide) (fun h1 h2 => ?_) JD
                have hk : Int32.toInt x1 = 102 ∨ Int32.toInt x1 = 103 ∨ Int32.toInt x1 = 105 ∨ Int32.toInt x1 = 106 ∨ Int32.toInt x1 = 107 ∨ Int32.toInt x1 = 108 ∨ Int32.toInt x1 = 109 ∨ Int32.toInt x1 = 110 ∨ Int32.toInt x1 = 111 ∨ Int32.toInt x1 = 112 ∨ Int32.toInt x1 = 113 ∨ Int32.toInt x1 = 114 ∨ Int32.toInt x1 = 115 ∨ Int32.toInt x1 = 117 ∨ Int32.toInt x1 = 119 := by omega
                rcases hk with h | h | h | h | h | h | h | h | h | h | h | h | h | h | h <;> rw [h] <;> rfl

