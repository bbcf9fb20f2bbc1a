def bX4_whereWas_107 (v2 : Int32) (xr : (Nat → Int32)) (xo : Int32) : (Int32 × Int32 × (Nat → Int32)) → Option ((Int32 × Int32 × (Nat → Int32)) ⊕ (Int32 × (Nat → Int32))) := fun ((t14, t15, t16) : Int32 × Int32 × (Nat → Int32)) =>
  if xo ≤ t15 then
    some (.inr (t14, t16))
  else
    Option.bind (fX4_verdictIn v2 t16) fun x19 =>
    if ob t15 16 then none else
    Option.bind (if x19 = (xr (Int32.toNatClampNeg t15)) then
        some 1
      else
        some 0) fun (t20 : Int32) =>
    Option.bind (fX4_hour t16) fun x21 =>
    some (.inl (t14 &&& t20, t15 + 1, x21))

def bX4_whereWas_54 (v1 : Int32) (v2 : Int32) (v3 : Int32) (xs : (Nat → Int32)) (xr : (Nat → Int32)) (xo : Int32) : (Int32 × Int32 × (Nat → Int32)) → Option ((Int32 × Int32 × (Nat → Int32)) ⊕ (Int32 × (Nat → Int32))) := fun ((t5, t6, t7) : Int32 × Int32 × (Nat → Int32)) =>
  Option.bind (if v3 = 0 then
      some 16
    else
      some 6) fun (t10 : Int32) =>
  if t10 ≤ t6 then
    some (.inr (t5, t7))
  else
    Option.bind (fX4_copies xs t7) fun x11 =>
    Option.bind (if v3 = 0 then
        some 2
      else
        some 0) fun (t12 : Int32) =>
    Option.bind (fX4_of v1 t12) fun x13 =>
    if ob x13 53 then none else
    Option.bind (lp (bX4_whereWas_107 v2 xr xo) fu (1, 0, upd x11 (Int32.toNatClampNeg x13) t6)) fun ((t17, t18) : Int32 × (Nat → Int32)) =>
    Option.bind (if t17 = 0 then
        some 0
      else
        some ((1 : Int32) <<< (t6 &&& 31))) fun (t22 : Int32) =>
    some (.inl (t5 ||| t22, t6 + 1, t18))

def fX4_whereWas (v1 : Int32) (v2 : Int32) (v3 : Int32) (xs : (Nat → Int32)) (xm : (Nat → Int32)) (xr : (Nat → Int32)) (xe : (Nat → Int32)) (xo : Int32) : Option (Int32 × (Nat → Int32) × (Nat → Int32)) :=
  Option.bind (fX4_isThing v1 xs) fun x1 =>
  Option.bind (if x1 = 0 then
      some (-1)
    else
      Option.bind (fX4_isBranch v2) fun x3 =>
      if x3 = 0 then
        some (-1)
      else
        Option.bind (fX4_isIn v3 0 1) fun x4 =>
        if x4 = 0 then
          some (-2)
        else
          some 0) fun (t2 : Int32) =>
  if t2 = 0 then
    Option.bind (lp (bX4_whereWas_54 v1 v2 v3 xs xr xo) fu (0, 0, xm)) fun ((t8, t9) : Int32 × (Nat → Int32)) =>
    some (t8, t9, xe)
  else
    Option.bind (fX4_no t2 xe) fun x23 =>
    some (x23.1, xm, x23.2)

def rmX4_whereWas : Room := { frames := 5, cells := 0, slots := 0, locals := 113 }
theorem mbX4_whereWas_f9 : Cond.fieldLink RX4 9 (TX4 0).1 (TX4 0).2.1 (TX4 0).2.2.1 ∈ wsX4_whereWas := by decide +kernel
theorem inX4_whereWas_X4 : ∀ w ∈ wsX40, w ∈ wsX4_whereWas := by decide +kernel
theorem mbX4_whereWas_f13 : Cond.fieldLink RX4 13 (TX4 1).1 (TX4 1).2.1 (TX4 1).2.2.1 ∈ wsX4_whereWas := by decide +kernel
theorem mbX4_whereWas_f190 : Cond.fieldLink RX4 190 (TX4 9).1 (TX4 9).2.1 (TX4 9).2.2.1 ∈ wsX4_whereWas := by decide +kernel
theorem mbX4_whereWas_f25 : Cond.fieldLink RX4 25 (TX4 6).1 (TX4 6).2.1 (TX4 6).2.2.1 ∈ wsX4_whereWas := by decide +kernel
theorem hdVX4_whereWas : yX4_whereWas.cls = RX4 ∧ yX4_whereWas.cls ≠ "java/lang/invoke/MethodHandle" ∧ yX4_whereWas.cls ≠ "java/lang/invoke/VarHandle" ∧ (parseMethodDescriptor yX4_whereWas.desc).map (fun d => d.parameters.length) = some 3 := by decide +kernel
set_option maxHeartbeats 4000000 in
set_option maxRecDepth 100000 in
theorem ctX4_whereWas {l : Launch} {D : va_G} {cI cJ cQ : ClassId} (ad : Nat → Nat) (xs : (Nat → Int32)) (xm : (Nat → Int32)) (xi : (Nat → Int32)) (xw : (Nat → Int32)) (xh : Int32) (xl : (Nat → Int32)) (xr : (Nat → Int32)) (xe : (Nat → Int32)) (xn : Int32) (xo : Int32) (xp : Int32) (xu : (Nat → Int32)) (xd : Int32) (v1 : Int32) (v2 : Int32) (v3 : Int32) {res : Int32 × (Nat → Int32) × (Nat → Int32)} (h : fX4_whereWas v1 v2 v3 xs xm xr xe xo = some res) : CtI l D cI cJ cQ yX4_whereWas wsX4_whereWas rmX4_whereWas [.ref (ad 0), .int v1, .int v2, .int v3] (wMd cI ad xs xm xi xw xh xl xr xe xn xo xp xu xd) res.1 (wMd cI ad xs res.2.1 xi xw xh xl xr res.2.2 xn xo xp xu xd) := by
  refine ctI_of .int (cc := cX4_whereWas) (maxL := 9) (by decide) rfl (Nat.le_of_ble_eq_true rfl) ?_
  intro p e s m args below meth c A Q ls F hK hA RET hH hl
  obtain ⟨hx, hb, hml, hown, hts⟩ := id F
  have hl : lv_has ls 9 [(0, .ref (ad 0)), (1, .int v1), (2, .int v2), (3, .int v3)] := hl
  have hf : wpO (fX4_whereWas v1 v2 v3 xs xm xr xe xo) (fun v => v = res) := ⟨_, h, rfl⟩
  obtain ⟨H, eH⟩ : ∃ H, H = s.heap := ⟨_, rfl⟩
  obtain ⟨locs, eL⟩ : ∃ locs : List Loc, locs = [] := ⟨_, rfl⟩
  have hH : Hs D A s.heap (wMd cI ad xs xm xi xw xh xl xr xe xn xo xp xu xd) H locs := by rw [eH, eL]; exact hH
  rw [← eL]
  suffices hgo : W p l e rmX4_whereWas s m args below meth c H locs 0 0 Q (F0 m 0 ls []) by rw [eH] at hgo; exact hgo
  clear eH eL
  refine lv_aload_n hx hb dX4_whereWas_0 rfl (lv_at hl 0 rfl) ?_
  refine lv_iload_n hx hb dX4_whereWas_1 rfl (lv_at hl 1 rfl) ?_
  obtain ⟨x1, hcl, hf⟩ := wp_b hf
  refine k_Vi0 F hK hH hA hl.1 ⟨Nat.zero_le _, Nat.zero_le _⟩ [.int v1] [] (ctX4_isThing ad xs xm xi xw xh xl xr xe xn xo xp xu xd v1 hcl) (cwV 1 hts gX4_whereWas_X4_isThing rfl rfl rfl hdVX4_isThing ⟨Nat.le_of_ble_eq_true rfl, Nat.le_of_ble_eq_true rfl⟩) dX4_whereWas_2 0 rfl rfl rfl rfl rfl (Nat.le_of_ble_eq_true rfl) rfl (fun H locs hH => ?_)
  have hH : Hs D A s.heap (wMd cI ad xs xm xi xw xh xl xr xe xn xo xp xu xd) H locs := hH
  refine join_ (α := Int32) (fun Φ => ∀ (t2 : Int32) (H : Heap) (locs : List Loc) (ls : Array Slot), Φ t2 → Hs D A s.heap (wMd cI ad xs xm xi xw xh xl xr xe xn xo xp xu xd) H locs → lv_has ls 9 [(0, .ref (ad 0)), (1, .int v1), (2, .int v2), (3, .int v3)] → W p l e rmX4_whereWas s m args below meth c H locs 0 0 Q (F0 m 34 ls [.int t2])) (wp_bb hf) ?_ ?_
  · intro t2 H locs ls hf hH hl
    refine lv_istore (lv' := [(4, .int t2), (0, .ref (ad 0)), (1, .int v1), (2, .int v2), (3, .int v3)]) hx hb dX4_whereWas_34 hl (by decide) rfl (fun ls hl => ?_)
    refine lv_iload hx hb dX4_whereWas_36 (lv_at hl 0 rfl) ?_
    refine lv_if_eq (tgt := 48) hx hb dX4_whereWas_38 (by decide) (fun hc => ?_) (fun hc => ?_)
    · have hf := wp_t hc hf
      refine lv_iconst (v := 0) hx hb dX4_whereWas_48 (by decide) ?_
      refine lv_istore (lv' := [(5, .int 0), (4, .int t2), (0, .ref (ad 0)), (1, .int v1), (2, .int v2), (3, .int v3)]) hx hb dX4_whereWas_49 hl (by decide) rfl (fun ls hl => ?_)
      refine lv_iconst (v := 0) hx hb dX4_whereWas_51 (by decide) ?_
      refine lv_istore (lv' := [(6, .int 0), (5, .int 0), (4, .int t2), (0, .ref (ad 0)), (1, .int v1), (2, .int v2), (3, .int v3)]) hx hb dX4_whereWas_52 hl (by decide) rfl (fun ls hl => ?_)
      have LP : ∀ (Φ : (Int32 × (Nat → Int32)) → Prop), (∀ (t8 : Int32) (t9 : (Nat → Int32)) (H : Heap) (locs : List Loc) (ls : Array Slot), Φ ((t8, t9)) → Hs D A s.heap (wMd cI ad xs t9 xi xw xh xl xr xe xn xo xp xu xd) H locs → lv_has ls 9 [(5, .int t8)] → W p l e rmX4_whereWas s m args below meth c H locs 0 0 Q (F0 m 181 ls [])) → ∀ (n : Nat) (t5 : Int32) (t6 : Int32) (t7 : (Nat → Int32)) (H : Heap) (locs : List Loc) (ls : Array Slot), wpO (lp (bX4_whereWas_54 v1 v2 v3 xs xr xo) n (t5, t6, t7)) Φ → Hs D A s.heap (wMd cI ad xs t7 xi xw xh xl xr xe xn xo xp xu xd) H locs → lv_has ls 9 [(0, .ref (ad 0)), (1, .int v1), (2, .int v2), (3, .int v3), (5, .int t5), (6, .int t6)] → W p l e rmX4_whereWas s m args below meth c H locs 0 0 Q (F0 m 54 ls []) := by
        intro Φ EX n
        induction n with
        | zero =>
          intro t5 t6 t7 H locs ls hf hH hl
          exact (wp_l0 hf).elim
        | succ n ih =>
          intro t5 t6 t7 H locs ls hf hH hl
          have hf := wp_l hf
          refine lv_iload hx hb dX4_whereWas_54 (lv_at hl 5 rfl) ?_
          refine lv_iload_n hx hb dX4_whereWas_56 rfl (lv_at hl 3 rfl) ?_
          refine join_ (α := Int32) (fun Φ => ∀ (t10 : Int32) (H : Heap) (locs : List Loc) (ls : Array Slot), Φ t10 → Hs D A s.heap (wMd cI ad xs t7 xi xw xh xl xr xe xn xo xp xu xd) H locs → lv_has ls 9 [(0, .ref (ad 0)), (1, .int v1), (2, .int v2), (3, .int v3), (5, .int t5), (6, .int t6)] → W p l e rmX4_whereWas s m args below meth c H locs 0 0 Q (F0 m 67 ls [.int t10, .int t6])) (wp_bb hf) ?_ ?_
          · intro t10 H locs ls hf hH hl
            refine lv_icmp_ge (tgt := 181) hx hb dX4_whereWas_67 (by decide) (fun hc => ?_) (fun hc => ?_)
            · have hf := wp_t hc hf
              have hw := wp_out hf
              exact EX _ _ _ _ _ hw hH (lv_sub hl [4] rfl)
            · have hf := wp_f hc hf
              refine lv_iconst (v := 1) hx hb dX4_whereWas_70 (by decide) ?_
              refine lv_istore (lv' := [(7, .int 1), (0, .ref (ad 0)), (1, .int v1), (2, .int v2), (3, .int v3), (5, .int t5), (6, .int t6)]) hx hb dX4_whereWas_71 hl (by decide) rfl (fun ls hl => ?_)
              refine lv_aload_n hx hb dX4_whereWas_73 rfl (lv_at hl 1 rfl) ?_
              refine k_get (v := .ref (ad 1)) F hK hH 0 inX4_whereWas_X4 0 mbX4_whereWas_f9 dX4_whereWas_74 rfl rfl (by decide) rfl ?_
              refine lv_aload_n hx hb dX4_whereWas_77 rfl (lv_at hl 1 rfl) ?_
              refine k_get (v := .ref (ad 2)) F hK hH 0 inX4_whereWas_X4 1 mbX4_whereWas_f13 dX4_whereWas_78 rfl rfl (by decide) rfl ?_
              obtain ⟨x11, hcl, hf⟩ := wp_b hf
              refine k_Sv F hK hH hA hl.1 ⟨Nat.zero_le _, Nat.zero_le _⟩ [1, 2] [.ref (ad 1), .ref (ad 2)] [] (ctX4_copies (ad 1) (ad 2) xs t7 hcl) (va_cwS 2 hts gX4_whereWas_X4_copies rfl rfl rfl hdSX4_copies ⟨Nat.le_of_ble_eq_true rfl, Nat.le_of_ble_eq_true rfl⟩) dX4_whereWas_81 rfl rfl (Nat.le_of_ble_eq_true rfl) rfl rfl (by decide) (fun H locs hH => ?_)
              have hH : Hs D A s.heap (wMd cI ad xs x11 xi xw xh xl xr xe xn xo xp xu xd) H locs := hH
              refine lv_aload_n hx hb dX4_whereWas_84 rfl (lv_at hl 1 rfl) ?_
              refine k_get (v := .ref (ad 2)) F hK hH 0 inX4_whereWas_X4 1 mbX4_whereWas_f13 dX4_whereWas_85 rfl rfl (by decide) rfl ?_
              refine lv_iload_n hx hb dX4_whereWas_88 rfl (lv_at hl 2 rfl) ?_
              refine lv_iload_n hx hb dX4_whereWas_89 rfl (lv_at hl 4 rfl) ?_
              refine join_ (α := Int32) (fun Φ => ∀ (t12 : Int32) (H : Heap) (locs : List Loc) (ls : Array Slot), Φ t12 → Hs D A s.heap (wMd cI ad xs x11 xi xw xh xl xr xe xn xo xp xu xd) H locs → lv_has ls 9 [(0, .ref (ad 0)), (1, .int v1), (2, .int v2), (3, .int v3), (5, .int t5), (6, .int t6), (7, .int 1)] → W p l e rmX4_whereWas s m args below meth c H locs 0 0 Q (F0 m 98 ls [.int t12, .int v1, .ref (ad 2)])) (wp_bb hf) ?_ ?_
              · intro t12 H locs ls hf hH hl
                obtain ⟨x13, hcl, hf⟩ := wp_b hf
                refine k_Si F hK hH hA hl.1 ⟨Nat.zero_le _, Nat.zero_le _⟩ [] [.int v1, .int t12] [.ref (ad 2)] (ctX4_of v1 t12 hcl) (va_cwS 2 hts gX4_whereWas_X4_of rfl rfl rfl hdSX4_of ⟨Nat.le_of_ble_eq_true rfl, Nat.le_of_ble_eq_true rfl⟩) dX4_whereWas_98 rfl rfl (Nat.le_of_ble_eq_true rfl) rfl rfl (by decide) (fun H locs hH => ?_)
                have hH : Hs D A s.heap (wMd cI ad xs x11 xi xw xh xl xr xe xn xo xp xu xd) H locs := hH
                refine lv_iload hx hb dX4_whereWas_101 (lv_at hl 5 rfl) ?_
                obtain ⟨hi, hf⟩ := wp_n hf
                refine k_iast (f := x11) (n := 53) F hK hH 2 dX4_whereWas_103 hi rfl (fun H locs hH => ?_)
                have hH : Hs D A s.heap (wMd cI ad xs (upd x11 (Int32.toNatClampNeg x13) t6) xi xw xh xl xr xe xn xo xp xu xd) H locs := hH
                refine lv_iconst (v := 0) hx hb dX4_whereWas_104 (by decide) ?_
                refine lv_istore (lv' := [(8, .int 0), (0, .ref (ad 0)), (1, .int v1), (2, .int v2), (3, .int v3), (5, .int t5), (6, .int t6), (7, .int 1)]) hx hb dX4_whereWas_105 hl (by decide) rfl (fun ls hl => ?_)
                have LP : ∀ (Φ : (Int32 × (Nat → Int32)) → Prop), (∀ (t17 : Int32) (t18 : (Nat → Int32)) (H : Heap) (locs : List Loc) (ls : Array Slot), Φ ((t17, t18)) → Hs D A s.heap (wMd cI ad xs t18 xi xw xh xl xr xe xn xo xp xu xd) H locs → lv_has ls 9 [(0, .ref (ad 0)), (1, .int v1), (2, .int v2), (3, .int v3), (5, .int t5), (6, .int t6), (7, .int t17)] → W p l e rmX4_whereWas s m args below meth c H locs 0 0 Q (F0 m 157 ls [])) → ∀ (n : Nat) (t14 : Int32) (t15 : Int32) (t16 : (Nat → Int32)) (H : Heap) (locs : List Loc) (ls : Array Slot), wpO (lp (bX4_whereWas_107 v2 xr xo) n (t14, t15, t16)) Φ → Hs D A s.heap (wMd cI ad xs t16 xi xw xh xl xr xe xn xo xp xu xd) H locs → lv_has ls 9 [(0, .ref (ad 0)), (1, .int v1), (2, .int v2), (3, .int v3), (5, .int t5), (6, .int t6), (7, .int t14), (8, .int t15)] → W p l e rmX4_whereWas s m args below meth c H locs 0 0 Q (F0 m 107 ls []) := by
                  intro Φ EX n
                  induction n with
                  | zero =>
                    intro t14 t15 t16 H locs ls hf hH hl
                    exact (wp_l0 hf).elim
                  | succ n ih =>
                    intro t14 t15 t16 H locs ls hf hH hl
                    have hf := wp_l hf
                    refine lv_iload hx hb dX4_whereWas_107 (lv_at hl 7 rfl) ?_
                    refine lv_aload_n hx hb dX4_whereWas_109 rfl (lv_at hl 0 rfl) ?_
                    refine k_get (v := .int xo) F hK hH 0 inX4_whereWas_X4 9 mbX4_whereWas_f190 dX4_whereWas_110 rfl rfl (by decide) rfl ?_
                    refine lv_icmp_ge (tgt := 157) hx hb dX4_whereWas_113 (by decide) (fun hc => ?_) (fun hc => ?_)
                    · have hf := wp_t hc hf
                      have hw := wp_out hf
                      exact EX _ _ _ _ _ hw hH (lv_sub hl [0, 1, 2, 3, 4, 5, 6] rfl)
                    · have hf := wp_f hc hf
                      refine lv_iload hx hb dX4_whereWas_116 (lv_at hl 6 rfl) ?_
                      refine lv_aload_n hx hb dX4_whereWas_118 rfl (lv_at hl 0 rfl) ?_
                      refine k_get (v := .ref (ad 2)) F hK hH 0 inX4_whereWas_X4 1 mbX4_whereWas_f13 dX4_whereWas_119 rfl rfl (by decide) rfl ?_
                      refine lv_iload_n hx hb dX4_whereWas_122 rfl (lv_at hl 2 rfl) ?_
                      obtain ⟨x19, hcl, hf⟩ := wp_b hf
                      refine k_Si F hK hH hA hl.1 ⟨Nat.zero_le _, Nat.zero_le _⟩ [2] [.ref (ad 2), .int v2] [.int t14] (ctX4_verdictIn (ad 2) t16 v2 hcl) (va_cwS 2 hts gX4_whereWas_X4_verdictIn rfl rfl rfl hdSX4_verdictIn ⟨Nat.le_of_ble_eq_true rfl, Nat.le_of_ble_eq_true rfl⟩) dX4_whereWas_123 rfl rfl (Nat.le_of_ble_eq_true rfl) rfl rfl (by decide) (fun H locs hH => ?_)
                      have hH : Hs D A s.heap (wMd cI ad xs t16 xi xw xh xl xr xe xn xo xp xu xd) H locs := hH
                      refine lv_aload_n hx hb dX4_whereWas_126 rfl (lv_at hl 0 rfl) ?_
                      refine k_get (v := .ref (ad 6)) F hK hH 0 inX4_whereWas_X4 6 mbX4_whereWas_f25 dX4_whereWas_127 rfl rfl (by decide) rfl ?_
                      refine lv_iload hx hb dX4_whereWas_130 (lv_at hl 7 rfl) ?_
                      obtain ⟨hi, hf⟩ := wp_n hf
                      refine k_iald (f := xr) (n := 16) F hK hH 6 dX4_whereWas_132 hi rfl ?_
                      refine join_ (α := Int32) (fun Φ => ∀ (t20 : Int32) (H : Heap) (locs : List Loc) (ls : Array Slot), Φ t20 → Hs D A s.heap (wMd cI ad xs t16 xi xw xh xl xr xe xn xo xp xu xd) H locs → lv_has ls 9 [(0, .ref (ad 0)), (1, .int v1), (2, .int v2), (3, .int v3), (5, .int t5), (6, .int t6), (8, .int t15)] → W p l e rmX4_whereWas s m args below meth c H locs 0 0 Q (F0 m 141 ls [.int t20, .int t14])) (wp_bb hf) ?_ ?_
                      · intro t20 H locs ls hf hH hl
                        refine lv_iand hx hb dX4_whereWas_141 ?_
                        refine lv_istore (lv' := [(7, .int (t14 &&& t20)), (0, .ref (ad 0)), (1, .int v1), (2, .int v2), (3, .int v3), (5, .int t5), (6, .int t6), (8, .int t15)]) hx hb dX4_whereWas_142 hl (by decide) rfl (fun ls hl => ?_)
                        refine lv_aload_n hx hb dX4_whereWas_144 rfl (lv_at hl 1 rfl) ?_
                        refine k_get (v := .ref (ad 2)) F hK hH 0 inX4_whereWas_X4 1 mbX4_whereWas_f13 dX4_whereWas_145 rfl rfl (by decide) rfl ?_
                        obtain ⟨x21, hcl, hf⟩ := wp_b hf
                        refine k_Sv F hK hH hA hl.1 ⟨Nat.zero_le _, Nat.zero_le _⟩ [2] [.ref (ad 2)] [] (ctX4_hour (ad 2) t16 hcl) (va_cwS 1 hts gX4_whereWas_X4_hour rfl rfl rfl hdSX4_hour ⟨Nat.le_of_ble_eq_true rfl, Nat.le_of_ble_eq_true rfl⟩) dX4_whereWas_148 rfl rfl (Nat.le_of_ble_eq_true rfl) rfl rfl (by decide) (fun H locs hH => ?_)
                        have hH : Hs D A s.heap (wMd cI ad xs x21 xi xw xh xl xr xe xn xo xp xu xd) H locs := hH
                        refine lv_iinc (v := t15 + 1) (lv' := [(8, .int (t15 + 1)), (7, .int (t14 &&& t20)), (0, .ref (ad 0)), (1, .int v1), (2, .int v2), (3, .int v3), (5, .int t5), (6, .int t6)]) hx hb dX4_whereWas_151 hl (k := 7) rfl rfl (by decide) rfl (fun ls hl => ?_)
                        refine lv_goto (tgt := 107) hx hb dX4_whereWas_154 (by decide) ?_
                        have hw := wp_in hf
                        exact ih _ _ _ _ _ _ hw hH (lv_sub hl [2, 3, 4, 5, 6, 7, 1, 0] rfl)
                      · intro Φ JJ hf
                        refine lv_icmp_ne (tgt := 140) hx hb dX4_whereWas_133 (by decide) (fun hc => ?_) (fun hc => ?_)
                        · have hf := wp_f hc hf
                          refine lv_iconst (v := 0) hx hb dX4_whereWas_140 (by decide) ?_
                          have hw := wp_s hf
                          exact JJ _ _ _ _ hw hH (lv_sub hl [0, 1, 2, 3, 4, 5, 7] rfl)
                        · have hf := wp_t hc hf
                          refine lv_iconst (v := 1) hx hb dX4_whereWas_136 (by decide) ?_
                          refine lv_goto (tgt := 141) hx hb dX4_whereWas_137 (by decide) ?_
                          have hw := wp_s hf
                          exact JJ _ _ _ _ hw hH (lv_sub hl [0, 1, 2, 3, 4, 5, 7] rfl)
                refine LP _ (fun t17 t18 H locs ls hf hH hl => ?_) fu _ _ _ _ _ _ (wp_bb hf) hH (lv_sub hl [1, 2, 3, 4, 5, 6, 7, 0] rfl)
                refine lv_iload hx hb dX4_whereWas_157 (lv_at hl 4 rfl) ?_
                refine lv_iload hx hb dX4_whereWas_159 (lv_at hl 6 rfl) ?_
                refine join_ (α := Int32) (fun Φ => ∀ (t22 : Int32) (H : Heap) (locs : List Loc) (ls : Array Slot), Φ t22 → Hs D A s.heap (wMd cI ad xs t18 xi xw xh xl xr xe xn xo xp xu xd) H locs → lv_has ls 9 [(0, .ref (ad 0)), (1, .int v1), (2, .int v2), (3, .int v3), (6, .int t6)] → W p l e rmX4_whereWas s m args below meth c H locs 0 0 Q (F0 m 172 ls [.int t22, .int t5])) (wp_bb hf) ?_ ?_
                · intro t22 H locs ls hf hH hl
                  refine lv_ior hx hb dX4_whereWas_172 ?_
                  refine lv_istore (lv' := [(5, .int (t5 ||| t22)), (0, .ref (ad 0)), (1, .int v1), (2, .int v2), (3, .int v3), (6, .int t6)]) hx hb dX4_whereWas_173 hl (by decide) rfl (fun ls hl => ?_)
                  refine lv_iinc (v := t6 + 1) (lv' := [(6, .int (t6 + 1)), (5, .int (t5 ||| t22)), (0, .ref (ad 0)), (1, .int v1), (2, .int v2), (3, .int v3)]) hx hb dX4_whereWas_175 hl (k := 5) rfl rfl (by decide) rfl (fun ls hl => ?_)
                  refine lv_goto (tgt := 54) hx hb dX4_whereWas_178 (by decide) ?_
                  have hw := wp_in hf
                  exact ih _ _ _ _ _ _ hw hH (lv_sub hl [2, 3, 4, 5, 1, 0] rfl)
                · intro Φ JJ hf
                  refine lv_if_eq (tgt := 171) hx hb dX4_whereWas_161 (by decide) (fun hc => ?_) (fun hc => ?_)
                  · have hf := wp_t hc hf
                    refine lv_iconst (v := 0) hx hb dX4_whereWas_171 (by decide) ?_
                    have hw := wp_s hf
                    exact JJ _ _ _ _ hw hH (lv_sub hl [0, 1, 2, 3, 5] rfl)
                  · have hf := wp_f hc hf
                    refine lv_iconst (v := 1) hx hb dX4_whereWas_164 (by decide) ?_
                    refine lv_iload hx hb dX4_whereWas_165 (lv_at hl 5 rfl) ?_
                    refine lv_ishl hx hb dX4_whereWas_167 ?_
                    refine lv_goto (tgt := 172) hx hb dX4_whereWas_168 (by decide) ?_
                    have hw := wp_s hf
                    exact JJ _ _ _ _ hw hH (lv_sub hl [0, 1, 2, 3, 5] rfl)
              · intro Φ JJ hf
                refine lv_if_ne (tgt := 97) hx hb dX4_whereWas_90 (by decide) (fun hc => ?_) (fun hc => ?_)
                · have hf := wp_f hc hf
                  refine lv_iconst (v := 0) hx hb dX4_whereWas_97 (by decide) ?_
                  have hw := wp_s hf
                  exact JJ _ _ _ _ hw hH (lv_sub hl [1, 2, 3, 4, 5, 6, 0] rfl)
                · have hf := wp_t hc hf
                  refine lv_iconst (v := 2) hx hb dX4_whereWas_93 (by decide) ?_
                  refine lv_goto (tgt := 98) hx hb dX4_whereWas_94 (by decide) ?_
                  have hw := wp_s hf
                  exact JJ _ _ _ _ hw hH (lv_sub hl [1, 2, 3, 4, 5, 6, 0] rfl)
          · intro Φ JJ hf
            refine lv_if_ne (tgt := 65) hx hb dX4_whereWas_57 (by decide) (fun hc => ?_) (fun hc => ?_)
            · have hf := wp_f hc hf
              refine lv_bipush (v := 6) hx hb dX4_whereWas_65 (by decide) ?_
              have hw := wp_s hf
              exact JJ _ _ _ _ hw hH (lv_sub hl [0, 1, 2, 3, 4, 5] rfl)
            · have hf := wp_t hc hf
              refine lv_bipush (v := 16) hx hb dX4_whereWas_60 (by decide) ?_
              refine lv_goto (tgt := 67) hx hb dX4_whereWas_62 (by decide) ?_
              have hw := wp_s hf
              exact JJ _ _ _ _ hw hH (lv_sub hl [0, 1, 2, 3, 4, 5] rfl)
      refine LP _ (fun t8 t9 H locs ls hf hH hl => ?_) fu _ _ _ _ _ _ (wp_bb hf) hH (lv_sub hl [3, 4, 5, 6, 1, 0] rfl)
      refine lv_iload hx hb dX4_whereWas_181 (lv_at hl 0 rfl) ?_
      have hrs := wp_s hf
      subst hrs
      exact RET H locs ls 183 dX4_whereWas_183 rfl hH
    · have hf := wp_f hc hf
      refine lv_aload_n hx hb dX4_whereWas_41 rfl (lv_at hl 1 rfl) ?_
      refine lv_iload hx hb dX4_whereWas_42 (lv_at hl 0 rfl) ?_
      obtain ⟨x23, hcl, hf⟩ := wp_b hf
      refine k_Vi0 F hK hH hA hl.1 ⟨Nat.zero_le _, Nat.zero_le _⟩ [.int t2] [] (ctX4_no ad xs xm xi xw xh xl xr xe xn xo xp xu xd t2 hcl) (cwV 1 hts gX4_whereWas_X4_no rfl rfl rfl hdVX4_no ⟨Nat.le_of_ble_eq_true rfl, Nat.le_of_ble_eq_true rfl⟩) dX4_whereWas_44 0 rfl rfl rfl rfl rfl (Nat.le_of_ble_eq_true rfl) rfl (fun H locs hH => ?_)
      have hH : Hs D A s.heap (wMd cI ad xs xm xi xw xh xl xr x23.2 xn xo xp xu xd) H locs := hH
      refine W.eq (g2 := F0 m 47 ls [.int x23.1]) rfl ?_
      have hrs := wp_s hf
      subst hrs
      exact RET H locs ls 47 dX4_whereWas_47 rfl hH
  · intro Φ JJ hf
    refine lv_if_eq (tgt := 15) hx hb dX4_whereWas_5 (by decide) (fun hc => ?_) (fun hc => ?_)
    · have hf := wp_t hc hf
      refine lv_iconst (v := (-1)) hx hb dX4_whereWas_15 (by decide) ?_
      refine lv_goto (tgt := 34) hx hb dX4_whereWas_16 (by decide) ?_
      have hw := wp_s hf
      exact JJ _ _ _ _ hw hH (lv_sub hl [0, 1, 2, 3] rfl)
    · have hf := wp_f hc hf
      refine lv_iload_n hx hb dX4_whereWas_8 rfl (lv_at hl 2 rfl) ?_
      obtain ⟨x3, hcl, hf⟩ := wp_b hf
      refine k_Si F hK hH hA hl.1 ⟨Nat.zero_le _, Nat.zero_le _⟩ [] [.int v2] [] (ctX4_isBranch v2 hcl) (va_cwS 1 hts gX4_whereWas_X4_isBranch rfl rfl rfl hdSX4_isBranch ⟨Nat.le_of_ble_eq_true rfl, Nat.le_of_ble_eq_true rfl⟩) dX4_whereWas_9 rfl rfl (Nat.le_of_ble_eq_true rfl) rfl rfl (by decide) (fun H locs hH => ?_)
      have hH : Hs D A s.heap (wMd cI ad xs xm xi xw xh xl xr xe xn xo xp xu xd) H locs := hH
      refine lv_if_ne (tgt := 19) hx hb dX4_whereWas_12 (by decide) (fun hc => ?_) (fun hc => ?_)
      · have hf := wp_f hc hf
        refine lv_iload_n hx hb dX4_whereWas_19 rfl (lv_at hl 3 rfl) ?_
        refine lv_iconst (v := 0) hx hb dX4_whereWas_20 (by decide) ?_
        refine lv_iconst (v := 1) hx hb dX4_whereWas_21 (by decide) ?_
        obtain ⟨x4, hcl, hf⟩ := wp_b hf
        refine k_Si F hK hH hA hl.1 ⟨Nat.zero_le _, Nat.zero_le _⟩ [] [.int v3, .int 0, .int 1] [] (ctX4_isIn v3 0 1 hcl) (va_cwS 3 hts gX4_whereWas_X4_isIn rfl rfl rfl hdSX4_isIn ⟨Nat.le_of_ble_eq_true rfl, Nat.le_of_ble_eq_true rfl⟩) dX4_whereWas_22 rfl rfl (Nat.le_of_ble_eq_true rfl) rfl rfl (by decide) (fun H locs hH => ?_)
        have hH : Hs D A s.heap (wMd cI ad xs xm xi xw xh xl xr xe xn xo xp xu xd) H locs := hH
        refine lv_if_eq (tgt := 32) hx hb dX4_whereWas_25 (by decide) (fun hc => ?_) (fun hc => ?_)
        · have hf := wp_t hc hf
          refine lv_bipush (v := (-2)) hx hb dX4_whereWas_32 (by decide) ?_
          have hw := wp_s hf
          exact JJ _ _ _ _ hw hH (lv_sub hl [0, 1, 2, 3] rfl)
        · have hf := wp_f hc hf
          refine lv_iconst (v := 0) hx hb dX4_whereWas_28 (by decide) ?_
          refine lv_goto (tgt := 34) hx hb dX4_whereWas_29 (by decide) ?_
          have hw := wp_s hf
          exact JJ _ _ _ _ hw hH (lv_sub hl [0, 1, 2, 3] rfl)
      · have hf := wp_t hc hf
        refine lv_iconst (v := (-1)) hx hb dX4_whereWas_15 (by decide) ?_
        refine lv_goto (tgt := 34) hx hb dX4_whereWas_16 (by decide) ?_
        have hw := wp_s hf
        exact JJ _ _ _ _ hw hH (lv_sub hl [0, 1, 2, 3] rfl)

def fX4_row (v1 : Int32) (xr : (Nat → Int32)) (xe : (Nat → Int32)) (xo : Int32) : Option (Int32 × (Nat → Int32) × (Nat → Int32) × Int32) :=
  Option.bind (fX4_wrongBy v1 0 99) fun x1 =>
  Option.bind (if x1 = 0 then
      if xo = 16 then
        some (-6)
      else
        some x1
    else
      some x1) fun (t2 : Int32) =>
  if t2 = 0 then
    if ob xo 16 then none else
    some (xo + 1, upd xr (Int32.toNatClampNeg xo) v1, xe, xo + 1)
  else
    Option.bind (fX4_no t2 xe) fun x3 =>
    some (x3.1, xr, x3.2, xo)

def rmX4_row : Room := { frames := 1, cells := 0, slots := 0, locals := 22 }
theorem mbX4_row_f190 : Cond.fieldLink RX4 190 (TX4 9).1 (TX4 9).2.1 (TX4 9).2.2.1 ∈ wsX4_row := by decide +kernel
theorem inX4_row_X4 : ∀ w ∈ wsX40, w ∈ wsX4_row := by decide +kernel
theorem mbX4_row_f25 : Cond.fieldLink RX4 25 (TX4 6).1 (TX4 6).2.1 (TX4 6).2.2.1 ∈ wsX4_row := by decide +kernel
theorem hdVX4_row : yX4_row.cls = RX4 ∧ yX4_row.cls ≠ "java/lang/invoke/MethodHandle" ∧ yX4_row.cls ≠ "java/lang/invoke/VarHandle" ∧ (parseMethodDescriptor yX4_row.desc).map (fun d => d.parameters.length) = some 1 := by decide +kernel
set_option maxHeartbeats 4000000 in
set_option maxRecDepth 100000 in
theorem ctX4_row {l : Launch} {D : va_G} {cI cJ cQ : ClassId} (ad : Nat → Nat) (xs : (Nat → Int32)) (xm : (Nat → Int32)) (xi : (Nat → Int32)) (xw : (Nat → Int32)) (xh : Int32) (xl : (Nat → Int32)) (xr : (Nat → Int32)) (xe : (Nat → Int32)) (xn : Int32) (xo : Int32) (xp : Int32) (xu : (Nat → Int32)) (xd : Int32) (v1 : Int32) {res : Int32 × (Nat → Int32) × (Nat → Int32) × Int32} (h : fX4_row v1 xr xe xo = some res) : CtI l D cI cJ cQ yX4_row wsX4_row rmX4_row [.ref (ad 0), .int v1] (wMd cI ad xs xm xi xw xh xl xr xe xn xo xp xu xd) res.1 (wMd cI ad xs xm xi xw xh xl res.2.1 res.2.2.1 xn res.2.2.2 xp xu xd) := by
  refine ctI_of .int (cc := cX4_row) (maxL := 3) (by decide) rfl (Nat.le_of_ble_eq_true rfl) ?_
  intro p e s m args below meth c A Q ls F hK hA RET hH hl
  obtain ⟨hx, hb, hml, hown, hts⟩ := id F
  have hl : lv_has ls 3 [(0, .ref (ad 0)), (1, .int v1)] := hl
  have hf : wpO (fX4_row v1 xr xe xo) (fun v => v = res) := ⟨_, h, rfl⟩
  obtain ⟨H, eH⟩ : ∃ H, H = s.heap := ⟨_, rfl⟩
  obtain ⟨locs, eL⟩ : ∃ locs : List Loc, locs = [] := ⟨_, rfl⟩
  have hH : Hs D A s.heap (wMd cI ad xs xm xi xw xh xl xr xe xn xo xp xu xd) H locs := by rw [eH, eL]; exact hH
  rw [← eL]
  suffices hgo : W p l e rmX4_row s m args below meth c H locs 0 0 Q (F0 m 0 ls []) by rw [eH] at hgo; exact hgo
  clear eH eL
  refine lv_iload_n hx hb dX4_row_0 rfl (lv_at hl 1 rfl) ?_
  refine lv_iconst (v := 0) hx hb dX4_row_1 (by decide) ?_
  refine lv_bipush (v := 99) hx hb dX4_row_2 (by decide) ?_
  obtain ⟨x1, hcl, hf⟩ := wp_b hf
  refine k_Si F hK hH hA hl.1 ⟨Nat.zero_le _, Nat.zero_le _⟩ [] [.int v1, .int 0, .int 99] [] (ctX4_wrongBy v1 0 99 hcl) (va_cwS 3 hts gX4_row_X4_wrongBy rfl rfl rfl hdSX4_wrongBy ⟨Nat.le_of_ble_eq_true rfl, Nat.le_of_ble_eq_true rfl⟩) dX4_row_4 rfl rfl (Nat.le_of_ble_eq_true rfl) rfl rfl (by decide) (fun H locs hH => ?_)
  have hH : Hs D A s.heap (wMd cI ad xs xm xi xw xh xl xr xe xn xo xp xu xd) H locs := hH
  refine lv_istore_n (lv' := [(2, .int x1), (0, .ref (ad 0)), (1, .int v1)]) hx hb dX4_row_7 rfl hl (by decide) rfl (fun ls hl => ?_)
  refine lv_iload_n hx hb dX4_row_8 rfl (lv_at hl 0 rfl) ?_
  refine join_ (α := Int32) (fun Φ => ∀ (t2 : Int32) (H : Heap) (locs : List Loc) (ls : Array Slot), Φ t2 → Hs D A s.heap (wMd cI ad xs xm xi xw xh xl xr xe xn xo xp xu xd) H locs → lv_has ls 3 [(0, .ref (ad 0)), (1, .int v1), (2, .int t2)] → W p l e rmX4_row s m args below meth c H locs 0 0 Q (F0 m 24 ls [])) (wp_bb hf) ?_ ?_
  · intro t2 H locs ls hf hH hl
    refine lv_iload_n hx hb dX4_row_24 rfl (lv_at hl 2 rfl) ?_
    refine lv_if_eq (tgt := 34) hx hb dX4_row_25 (by decide) (fun hc => ?_) (fun hc => ?_)
    · have hf := wp_t hc hf
      refine lv_aload_n hx hb dX4_row_34 rfl (lv_at hl 0 rfl) ?_
      refine k_get (v := .ref (ad 6)) F hK hH 0 inX4_row_X4 6 mbX4_row_f25 dX4_row_35 rfl rfl (by decide) rfl ?_
      refine lv_aload_n hx hb dX4_row_38 rfl (lv_at hl 0 rfl) ?_
      refine k_get (v := .int xo) F hK hH 0 inX4_row_X4 9 mbX4_row_f190 dX4_row_39 rfl rfl (by decide) rfl ?_
      refine lv_iload_n hx hb dX4_row_42 rfl (lv_at hl 1 rfl) ?_
      obtain ⟨hi, hf⟩ := wp_n hf
      refine k_iast (f := xr) (n := 16) F hK hH 6 dX4_row_43 hi rfl (fun H locs hH => ?_)
      have hH : Hs D A s.heap (wMd cI ad xs xm xi xw xh xl (upd xr (Int32.toNatClampNeg xo) v1) xe xn xo xp xu xd) H locs := hH
      refine lv_aload_n hx hb dX4_row_44 rfl (lv_at hl 0 rfl) ?_
      refine lv_dup hx hb dX4_row_45 rfl ?_
      refine k_get (v := .int xo) F hK hH 0 inX4_row_X4 9 mbX4_row_f190 dX4_row_46 rfl rfl (by decide) rfl ?_
      refine lv_iconst (v := 1) hx hb dX4_row_49 (by decide) ?_
      refine lv_iadd hx hb dX4_row_50 ?_
      refine k_put (v := .int (xo + 1)) F hK hH 0 inX4_row_X4 tyX4 tyX4_ok nmX4 9 mbX4_row_f190 dX4_row_51 rfl rfl (by decide) rfl rfl rfl (Nat.le_of_ble_eq_true rfl) (fun H locs hH => ?_)
      have hH : Hs D A s.heap (wMd cI ad xs xm xi xw xh xl (upd xr (Int32.toNatClampNeg xo) v1) xe xn (xo + 1) xp xu xd) H locs := hH
      refine lv_aload_n hx hb dX4_row_54 rfl (lv_at hl 0 rfl) ?_
      refine k_get (v := .int (xo + 1)) F hK hH 0 inX4_row_X4 9 mbX4_row_f190 dX4_row_55 rfl rfl (by decide) rfl ?_
      have hrs := wp_s hf
      subst hrs
      exact RET H locs ls 58 dX4_row_58 rfl hH
    · have hf := wp_f hc hf
      refine lv_aload_n hx hb dX4_row_28 rfl (lv_at hl 0 rfl) ?_
      refine lv_iload_n hx hb dX4_row_29 rfl (lv_at hl 2 rfl) ?_
      obtain ⟨x3, hcl, hf⟩ := wp_b hf
      refine k_Vi0 F hK hH hA hl.1 ⟨Nat.zero_le _, Nat.zero_le _⟩ [.int t2] [] (ctX4_no ad xs xm xi xw xh xl xr xe xn xo xp xu xd t2 hcl) (cwV 1 hts gX4_row_X4_no rfl rfl rfl hdVX4_no ⟨Nat.le_of_ble_eq_true rfl, Nat.le_of_ble_eq_true rfl⟩) dX4_row_30 0 rfl rfl rfl rfl rfl (Nat.le_of_ble_eq_true rfl) rfl (fun H locs hH => ?_)
      have hH : Hs D A s.heap (wMd cI ad xs xm xi xw xh xl xr x3.2 xn xo xp xu xd) H locs := hH
      refine W.eq (g2 := F0 m 33 ls [.int x3.1]) rfl ?_
      have hrs := wp_s hf
      subst hrs
      exact RET H locs ls 33 dX4_row_33 rfl hH
  · intro Φ JJ hf
    refine lv_if_ne (tgt := 24) hx hb dX4_row_9 (by decide) (fun hc => ?_) (fun hc => ?_)
    · have hf := wp_f hc hf
      have hw := wp_s hf
      exact JJ _ _ _ _ hw hH (lv_sub hl [1, 2, 0] rfl)
    · have hf := wp_t hc hf
      refine lv_aload_n hx hb dX4_row_12 rfl (lv_at hl 1 rfl) ?_
      refine k_get (v := .int xo) F hK hH 0 inX4_row_X4 9 mbX4_row_f190 dX4_row_13 rfl rfl (by decide) rfl ?_
      refine lv_bipush (v := 16) hx hb dX4_row_16 (by decide) ?_
      refine lv_icmp_ne (tgt := 24) hx hb dX4_row_18 (by decide) (fun hc => ?_) (fun hc => ?_)
      · have hf := wp_f hc hf
        have hw := wp_s hf
        exact JJ _ _ _ _ hw hH (lv_sub hl [1, 2, 0] rfl)
      · have hf := wp_t hc hf
        refine lv_bipush (v := (-6)) hx hb dX4_row_21 (by decide) ?_
        refine lv_istore_n (lv' := [(2, .int (-6)), (0, .ref (ad 0)), (1, .int v1)]) hx hb dX4_row_23 rfl hl (by decide) rfl (fun ls hl => ?_)
        have hw := wp_s hf
        exact JJ _ _ _ _ hw hH (lv_sub hl [1, 2, 0] rfl)

def bX4_judge_12 (xs : (Nat → Int32)) (xr : (Nat → Int32)) (xo : Int32) : (Int32) → Option ((Int32) ⊕ ((Int32 × Int32) ⊕ (Unit))) := fun (t1 : Int32) =>
  if xo ≤ t1 then
    some (.inr (.inr ()))
  else
    if ob (4 + t1) 53 then none else
    if ob t1 16 then none else
    if (xs (Int32.toNatClampNeg (4 + t1))) = (xr (Int32.toNatClampNeg t1)) then
      some (.inl (t1 + 1))
    else
      some (.inr (.inl (t1, 0)))

def fX4_judge (xs : (Nat → Int32)) (xr : (Nat → Int32)) (xo : Int32) : Option (Int32 × Int32) :=
  Option.bind (lp (bX4_judge_12 xs xr xo) fu 0) (el (fun v => some v) (fun (_ : Unit) =>
    some ((-9), 0)))

def rmX4_judge : Room := { frames := 0, cells := 0, slots := 0, locals := 0 }
theorem mbX4_judge_f190 : Cond.fieldLink RX4 190 (TX4 9).1 (TX4 9).2.1 (TX4 9).2.2.1 ∈ wsX4_judge := by decide +kernel
theorem inX4_judge_X4 : ∀ w ∈ wsX40, w ∈ wsX4_judge := by decide +kernel
theorem mbX4_judge_f9 : Cond.fieldLink RX4 9 (TX4 0).1 (TX4 0).2.1 (TX4 0).2.2.1 ∈ wsX4_judge := by decide +kernel
theorem mbX4_judge_f25 : Cond.fieldLink RX4 25 (TX4 6).1 (TX4 6).2.1 (TX4 6).2.2.1 ∈ wsX4_judge := by decide +kernel
theorem hdVX4_judge : yX4_judge.cls = RX4 ∧ yX4_judge.cls ≠ "java/lang/invoke/MethodHandle" ∧ yX4_judge.cls ≠ "java/lang/invoke/VarHandle" ∧ (parseMethodDescriptor yX4_judge.desc).map (fun d => d.parameters.length) = some 0 := by decide +kernel
set_option maxHeartbeats 4000000 in
set_option maxRecDepth 100000 in
theorem ctX4_judge {l : Launch} {D : va_G} {cI cJ cQ : ClassId} (ad : Nat → Nat) (xs : (Nat → Int32)) (xm : (Nat → Int32)) (xi : (Nat → Int32)) (xw : (Nat → Int32)) (xh : Int32) (xl : (Nat → Int32)) (xr : (Nat → Int32)) (xe : (Nat → Int32)) (xn : Int32) (xo : Int32) (xp : Int32) (xu : (Nat → Int32)) (xd : Int32)  {res : Int32 × Int32} (h : fX4_judge xs xr xo = some res) : CtI l D cI cJ cQ yX4_judge wsX4_judge rmX4_judge [.ref (ad 0)] (wMd cI ad xs xm xi xw xh xl xr xe xn xo xp xu xd) res.1 (wMd cI ad xs xm xi xw xh xl xr xe xn res.2 xp xu xd) := by
  refine ctI_of .int (cc := cX4_judge) (maxL := 3) (by decide) rfl (Nat.le_of_ble_eq_true rfl) ?_
  intro p e s m args below meth c A Q ls F hK hA RET hH hl
  obtain ⟨hx, hb, hml, hown, hts⟩ := id F
  have hl : lv_has ls 3 [(0, .ref (ad 0))] := hl
  have hf : wpO (fX4_judge xs xr xo) (fun v => v = res) := ⟨_, h, rfl⟩
  obtain ⟨H, eH⟩ : ∃ H, H = s.heap := ⟨_, rfl⟩
  obtain ⟨locs, eL⟩ : ∃ locs : List Loc, locs = [] := ⟨_, rfl⟩
  have hH : Hs D A s.heap (wMd cI ad xs xm xi xw xh xl xr xe xn xo xp xu xd) H locs := by rw [eH, eL]; exact hH
  rw [← eL]
  suffices hgo : W p l e rmX4_judge s m args below meth c H locs 0 0 Q (F0 m 0 ls []) by rw [eH] at hgo; exact hgo
  clear eH eL
  refine lv_aload_n hx hb dX4_judge_0 rfl (lv_at hl 0 rfl) ?_
  refine k_get (v := .int xo) F hK hH 0 inX4_judge_X4 9 mbX4_judge_f190 dX4_judge_1 rfl rfl (by decide) rfl ?_
  refine lv_istore_n (lv' := [(1, .int xo), (0, .ref (ad 0))]) hx hb dX4_judge_4 rfl hl (by decide) rfl (fun ls hl => ?_)
  refine lv_aload_n hx hb dX4_judge_5 rfl (lv_at hl 1 rfl) ?_
  refine lv_iconst (v := 0) hx hb dX4_judge_6 (by decide) ?_
  refine k_put (v := .int 0) F hK hH 0 inX4_judge_X4 tyX4 tyX4_ok nmX4 9 mbX4_judge_f190 dX4_judge_7 rfl rfl (by decide) rfl rfl rfl (Nat.le_of_ble_eq_true rfl) (fun H locs hH => ?_)
  have hH : Hs D A s.heap (wMd cI ad xs xm xi xw xh xl xr xe xn 0 xp xu xd) H locs := hH
  refine lv_iconst (v := 0) hx hb dX4_judge_10 (by decide) ?_
  refine lv_istore_n (lv' := [(2, .int 0), (1, .int xo), (0, .ref (ad 0))]) hx hb dX4_judge_11 rfl hl (by decide) rfl (fun ls hl => ?_)
  have LP : ∀ (Φ : ((Int32 × Int32) ⊕ (Unit)) → Prop), (∀ v : Int32 × Int32, Φ (.inl v) → v = res) → (∀ (_ : Unit) (H : Heap) (locs : List Loc) (ls : Array Slot), Φ (.inr ()) → Hs D A s.heap (wMd cI ad xs xm xi xw xh xl xr xe xn 0 xp xu xd) H locs → lv_has ls 3 [] → W p l e rmX4_judge s m args below meth c H locs 0 0 Q (F0 m 42 ls [])) → ∀ (n : Nat) (t1 : Int32) (H : Heap) (locs : List Loc) (ls : Array Slot), wpO (lp (bX4_judge_12 xs xr xo) n t1) Φ → Hs D A s.heap (wMd cI ad xs xm xi xw xh xl xr xe xn 0 xp xu xd) H locs → lv_has ls 3 [(0, .ref (ad 0)), (1, .int xo), (2, .int t1)] → W p l e rmX4_judge s m args below meth c H locs 0 0 Q (F0 m 12 ls []) := by
    intro Φ hret EX n
    induction n with
    | zero =>
      intro t1 H locs ls hf hH hl
      exact (wp_l0 hf).elim
    | succ n ih =>
      intro t1 H locs ls hf hH hl
      have hf := wp_l hf
      refine lv_iload_n hx hb dX4_judge_12 rfl (lv_at hl 2 rfl) ?_
      refine lv_iload_n hx hb dX4_judge_13 rfl (lv_at hl 1 rfl) ?_
      refine lv_icmp_ge (tgt := 42) hx hb dX4_judge_14 (by decide) (fun hc => ?_) (fun hc => ?_)
      · have hf := wp_t hc hf
        have hw := wp_out hf
        exact EX () _ _ _ hw hH (lv_sub hl [] rfl)
      · have hf := wp_f hc hf
        refine lv_aload_n hx hb dX4_judge_17 rfl (lv_at hl 0 rfl) ?_
        refine k_get (v := .ref (ad 1)) F hK hH 0 inX4_judge_X4 0 mbX4_judge_f9 dX4_judge_18 rfl rfl (by decide) rfl ?_
        refine lv_iconst (v := 4) hx hb dX4_judge_21 (by decide) ?_
        refine lv_iload_n hx hb dX4_judge_22 rfl (lv_at hl 2 rfl) ?_
        refine lv_iadd hx hb dX4_judge_23 ?_
        obtain ⟨hi, hf⟩ := wp_n hf
        refine k_iald (f := xs) (n := 53) F hK hH 1 dX4_judge_24 hi rfl ?_
        refine lv_aload_n hx hb dX4_judge_25 rfl (lv_at hl 0 rfl) ?_
        refine k_get (v := .ref (ad 6)) F hK hH 0 inX4_judge_X4 6 mbX4_judge_f25 dX4_judge_26 rfl rfl (by decide) rfl ?_
        refine lv_iload_n hx hb dX4_judge_29 rfl (lv_at hl 2 rfl) ?_
        obtain ⟨hi, hf⟩ := wp_n hf
        refine k_iald (f := xr) (n := 16) F hK hH 6 dX4_judge_30 hi rfl ?_
        refine lv_icmp_eq (tgt := 36) hx hb dX4_judge_31 (by decide) (fun hc => ?_) (fun hc => ?_)
        · have hf := wp_t hc hf
          refine lv_iinc (v := t1 + 1) (lv' := [(2, .int (t1 + 1)), (0, .ref (ad 0)), (1, .int xo)]) hx hb dX4_judge_36 hl (k := 2) rfl rfl (by decide) rfl (fun ls hl => ?_)
          refine lv_goto (tgt := 12) hx hb dX4_judge_39 (by decide) ?_
          have hw := wp_in hf
          exact ih _ _ _ _ hw hH (lv_sub hl [1, 2, 0] rfl)
        · have hf := wp_f hc hf
          refine lv_iload_n hx hb dX4_judge_34 rfl (lv_at hl 2 rfl) ?_
          have hrs := hret _ (wp_out hf)
          subst hrs
          exact RET H locs ls 35 dX4_judge_35 rfl hH
  refine LP _ (fun v hv => by have h9 := wp_s hv; exact h9) (fun _ H locs ls hf hH hl => ?_) fu _ _ _ _ (wp_bb hf) hH (lv_sub hl [2, 1, 0] rfl)
  refine lv_bipush (v := (-9)) hx hb dX4_judge_42 (by decide) ?_
  have hrs := wp_s hf
  subst hrs
  exact RET H locs ls 44 dX4_judge_44 rfl hH

def fX4_clear (xo : Int32) : Option (Int32 × Int32) :=
  some (xo, 0)

def rmX4_clear : Room := { frames := 0, cells := 0, slots := 0, locals := 0 }
theorem mbX4_clear_f190 : Cond.fieldLink RX4 190 (TX4 9).1 (TX4 9).2.1 (TX4 9).2.2.1 ∈ wsX4_clear := by decide +kernel
theorem inX4_clear_X4 : ∀ w ∈ wsX40, w ∈ wsX4_clear := by decide +kernel
theorem hdVX4_clear : yX4_clear.cls = RX4 ∧ yX4_clear.cls ≠ "java/lang/invoke/MethodHandle" ∧ yX4_clear.cls ≠ "java/lang/invoke/VarHandle" ∧ (parseMethodDescriptor yX4_clear.desc).map (fun d => d.parameters.length) = some 0 := by decide +kernel
set_option maxHeartbeats 4000000 in
set_option maxRecDepth 100000 in
theorem ctX4_clear {l : Launch} {D : va_G} {cI cJ cQ : ClassId} (ad : Nat → Nat) (xs : (Nat → Int32)) (xm : (Nat → Int32)) (xi : (Nat → Int32)) (xw : (Nat → Int32)) (xh : Int32) (xl : (Nat → Int32)) (xr : (Nat → Int32)) (xe : (Nat → Int32)) (xn : Int32) (xo : Int32) (xp : Int32) (xu : (Nat → Int32)) (xd : Int32)  {res : Int32 × Int32} (h : fX4_clear xo = some res) : CtI l D cI cJ cQ yX4_clear wsX4_clear rmX4_clear [.ref (ad 0)] (wMd cI ad xs xm xi xw xh xl xr xe xn xo xp xu xd) res.1 (wMd cI ad xs xm xi xw xh xl xr xe xn res.2 xp xu xd) := by
  refine ctI_of .int (cc := cX4_clear) (maxL := 2) (by decide) rfl (Nat.le_of_ble_eq_true rfl) ?_
  intro p e s m args below meth c A Q ls F hK hA RET hH hl
  obtain ⟨hx, hb, hml, hown, hts⟩ := id F
  have hl : lv_has ls 2 [(0, .ref (ad 0))] := hl
  have hf : wpO (fX4_clear xo) (fun v => v = res) := ⟨_, h, rfl⟩
  obtain ⟨H, eH⟩ : ∃ H, H = s.heap := ⟨_, rfl⟩
  obtain ⟨locs, eL⟩ : ∃ locs : List Loc, locs = [] := ⟨_, rfl⟩
  have hH : Hs D A s.heap (wMd cI ad xs xm xi xw xh xl xr xe xn xo xp xu xd) H locs := by rw [eH, eL]; exact hH
  rw [← eL]
  suffices hgo : W p l e rmX4_clear s m args below meth c H locs 0 0 Q (F0 m 0 ls []) by rw [eH] at hgo; exact hgo
  clear eH eL
  refine lv_aload_n hx hb dX4_clear_0 rfl (lv_at hl 0 rfl) ?_
  refine k_get (v := .int xo) F hK hH 0 inX4_clear_X4 9 mbX4_clear_f190 dX4_clear_1 rfl rfl (by decide) rfl ?_
  refine lv_istore_n (lv' := [(1, .int xo), (0, .ref (ad 0))]) hx hb dX4_clear_4 rfl hl (by decide) rfl (fun ls hl => ?_)
  refine lv_aload_n hx hb dX4_clear_5 rfl (lv_at hl 1 rfl) ?_
  refine lv_iconst (v := 0) hx hb dX4_clear_6 (by decide) ?_
  refine k_put (v := .int 0) F hK hH 0 inX4_clear_X4 tyX4 tyX4_ok nmX4 9 mbX4_clear_f190 dX4_clear_7 rfl rfl (by decide) rfl rfl rfl (Nat.le_of_ble_eq_true rfl) (fun H locs hH => ?_)
  have hH : Hs D A s.heap (wMd cI ad xs xm xi xw xh xl xr xe xn 0 xp xu xd) H locs := hH
  refine lv_iload_n hx hb dX4_clear_10 rfl (lv_at hl 0 rfl) ?_
  have hrs := wp_s hf
  subst hrs
  exact RET H locs ls 11 dX4_clear_11 rfl hH

def fX4_drawn (v1 : Int32) (xd : Int32) : Option (Int32 × Int32) :=
  if v1 = 0 then none else
  some (irem ((((xd * 1664525) + 1013904223) &&& 2147483647) / 256) v1, (xd * 1664525) + 1013904223)

def rmX4_drawn : Room := { frames := 0, cells := 0, slots := 0, locals := 0 }
theorem mbX4_drawn_f193 : Cond.fieldLink RX4 193 (TX4 12).1 (TX4 12).2.1 (TX4 12).2.2.1 ∈ wsX4_drawn := by decide +kernel
theorem inX4_drawn_X4 : ∀ w ∈ wsX40, w ∈ wsX4_drawn := by decide +kernel
theorem mbX4_drawn_c196 : Cond.constant RX4 196 1664525 ∈ wsX4_drawn := by decide +kernel
theorem mbX4_drawn_c197 : Cond.constant RX4 197 1013904223 ∈ wsX4_drawn := by decide +kernel
theorem mbX4_drawn_c198 : Cond.constant RX4 198 2147483647 ∈ wsX4_drawn := by decide +kernel
theorem hdVX4_drawn : yX4_drawn.cls = RX4 ∧ yX4_drawn.cls ≠ "java/lang/invoke/MethodHandle" ∧ yX4_drawn.cls ≠ "java/lang/invoke/VarHandle" ∧ (parseMethodDescriptor yX4_drawn.desc).map (fun d => d.parameters.length) = some 1 := by decide +kernel
set_option maxHeartbeats 4000000 in
set_option maxRecDepth 100000 in
theorem ctX4_drawn {l : Launch} {D : va_G} {cI cJ cQ : ClassId} (ad : Nat → Nat) (xs : (Nat → Int32)) (xm : (Nat → Int32)) (xi : (Nat → Int32)) (xw : (Nat → Int32)) (xh : Int32) (xl : (Nat → Int32)) (xr : (Nat → Int32)) (xe : (Nat → Int32)) (xn : Int32) (xo : Int32) (xp : Int32) (xu : (Nat → Int32)) (xd : Int32) (v1 : Int32) {res : Int32 × Int32} (h : fX4_drawn v1 xd = some res) : CtI l D cI cJ cQ yX4_drawn wsX4_drawn rmX4_drawn [.ref (ad 0), .int v1] (wMd cI ad xs xm xi xw xh xl xr xe xn xo xp xu xd) res.1 (wMd cI ad xs xm xi xw xh xl xr xe xn xo xp xu res.2) := by
  refine ctI_of .int (cc := cX4_drawn) (maxL := 2) (by decide) rfl (Nat.le_of_ble_eq_true rfl) ?_
  intro p e s m args below meth c A Q ls F hK hA RET hH hl
  obtain ⟨hx, hb, hml, hown, hts⟩ := id F
  have hl : lv_has ls 2 [(0, .ref (ad 0)), (1, .int v1)] := hl
  have hf : wpO (fX4_drawn v1 xd) (fun v => v = res) := ⟨_, h, rfl⟩
  obtain ⟨H, eH⟩ : ∃ H, H = s.heap := ⟨_, rfl⟩
  obtain ⟨locs, eL⟩ : ∃ locs : List Loc, locs = [] := ⟨_, rfl⟩
  have hH : Hs D A s.heap (wMd cI ad xs xm xi xw xh xl xr xe xn xo xp xu xd) H locs := by rw [eH, eL]; exact hH
  rw [← eL]
  suffices hgo : W p l e rmX4_drawn s m args below meth c H locs 0 0 Q (F0 m 0 ls []) by rw [eH] at hgo; exact hgo
  clear eH eL
  refine lv_aload_n hx hb dX4_drawn_0 rfl (lv_at hl 0 rfl) ?_
  refine lv_aload_n hx hb dX4_drawn_1 rfl (lv_at hl 0 rfl) ?_
  refine k_get (v := .int xd) F hK hH 0 inX4_drawn_X4 12 mbX4_drawn_f193 dX4_drawn_2 rfl rfl (by decide) rfl ?_
  refine lv_ldc (v := 1664525) hx hb hown (hts _ mbX4_drawn_c196) dX4_drawn_5 ?_
  refine lv_imul hx hb dX4_drawn_7 ?_
  refine lv_ldc (v := 1013904223) hx hb hown (hts _ mbX4_drawn_c197) dX4_drawn_8 ?_
  refine lv_iadd hx hb dX4_drawn_10 ?_
  refine k_put (v := .int ((xd * 1664525) + 1013904223)) F hK hH 0 inX4_drawn_X4 tyX4 tyX4_ok nmX4 12 mbX4_drawn_f193 dX4_drawn_11 rfl rfl (by decide) rfl rfl rfl (Nat.le_of_ble_eq_true rfl) (fun H locs hH => ?_)
  have hH : Hs D A s.heap (wMd cI ad xs xm xi xw xh xl xr xe xn xo xp xu ((xd * 1664525) + 1013904223)) H locs := hH
  refine lv_aload_n hx hb dX4_drawn_14 rfl (lv_at hl 0 rfl) ?_
  refine k_get (v := .int ((xd * 1664525) + 1013904223)) F hK hH 0 inX4_drawn_X4 12 mbX4_drawn_f193 dX4_drawn_15 rfl rfl (by decide) rfl ?_
  refine lv_ldc (v := 2147483647) hx hb hown (hts _ mbX4_drawn_c198) dX4_drawn_18 ?_
  refine lv_iand hx hb dX4_drawn_20 ?_
  refine lv_sipush (v := 256) hx hb dX4_drawn_21 (by decide) ?_
  refine lv_idiv hx hb dX4_drawn_24 (by decide) ?_
  refine lv_iload_n hx hb dX4_drawn_25 rfl (lv_at hl 1 rfl) ?_
  obtain ⟨hz, hf⟩ := wp_n hf
  refine lv_irem hx hb dX4_drawn_26 hz ?_
  have hrs := wp_s hf
  subst hrs
  exact RET H locs ls 27 dX4_drawn_27 rfl hH

