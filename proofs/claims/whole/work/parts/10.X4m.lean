def bX4_two_49 (v1 : Int32) (v2 : Int32) (v3 : Int32) (xs : (Nat → Int32)) (xe : (Nat → Int32)) : (Int32 × (Nat → Int32)) → Option ((Int32 × (Nat → Int32)) ⊕ ((Int32 × (Nat → Int32) × (Nat → Int32)) ⊕ ((Nat → Int32)))) := fun ((t5, t6) : Int32 × (Nat → Int32)) =>
  if (4 : Int32) ≤ t5 then
    some (.inr (.inr t6))
  else
    Option.bind (fX4_leadBy v1 (t5 / 2) v2 (irem t5 2) v3 xs t6) fun x8 =>
    Option.bind (fX4_leadBy v1 (1 - (t5 / 2)) v2 (irem t5 2) v3 xs x8.2) fun x9 =>
    if x8.1 < x9.1 then
      some (.inl (t5 + 1, x9.2))
    else
      Option.bind (fX4_leadBy v1 (t5 / 2) v2 (1 - (irem t5 2)) v3 xs x9.2) fun x10 =>
      if x10.1 < x8.1 then
        some (.inl (t5 + 1, x10.2))
      else
        some (.inr (.inl ((10 * (t5 / 2)) + (irem t5 2), x10.2, xe)))

def fX4_two (v1 : Int32) (v2 : Int32) (v3 : Int32) (xs : (Nat → Int32)) (xm : (Nat → Int32)) (xe : (Nat → Int32)) : Option (Int32 × (Nat → Int32) × (Nat → Int32)) :=
  Option.bind (fX4_isThing v1 xs) fun x1 =>
  Option.bind (if x1 = 0 then
      some (-1)
    else
      Option.bind (fX4_isThing v2 xs) fun x3 =>
      if x3 = 0 then
        some (-1)
      else
        if v1 = v2 then
          some (-1)
        else
          Option.bind (fX4_wrongBy v3 0 30) fun x4 =>
          some x4) fun (t2 : Int32) =>
  if t2 = 0 then
    Option.bind (lp (bX4_two_49 v1 v2 v3 xs xe) fu (0, xm)) (el (fun v => some v) (fun (t7 : (Nat → Int32)) =>
      some ((-9), t7, xe)))
  else
    Option.bind (fX4_no t2 xe) fun x11 =>
    some (x11.1, xm, x11.2)

def rmX4_two : Room := { frames := 7, cells := 0, slots := 0, locals := 161 }
theorem hdVX4_two : yX4_two.cls = RX4 ∧ yX4_two.cls ≠ "java/lang/invoke/MethodHandle" ∧ yX4_two.cls ≠ "java/lang/invoke/VarHandle" ∧ (parseMethodDescriptor yX4_two.desc).map (fun d => d.parameters.length) = some 3 := by decide +kernel
set_option maxHeartbeats 4000000 in
set_option maxRecDepth 100000 in
theorem ctX4_two {l : Launch} {D : va_G} {cI cJ cQ : ClassId} (ad : Nat → Nat) (xs : (Nat → Int32)) (xm : (Nat → Int32)) (xi : (Nat → Int32)) (xw : (Nat → Int32)) (xh : Int32) (xl : (Nat → Int32)) (xr : (Nat → Int32)) (xe : (Nat → Int32)) (xn : Int32) (xo : Int32) (xp : Int32) (xu : (Nat → Int32)) (xd : Int32) (v1 : Int32) (v2 : Int32) (v3 : Int32) {res : Int32 × (Nat → Int32) × (Nat → Int32)} (h : fX4_two v1 v2 v3 xs xm xe = some res) : CtI l D cI cJ cQ yX4_two wsX4_two rmX4_two [.ref (ad 0), .int v1, .int v2, .int v3] (wMd cI ad xs xm xi xw xh xl xr xe xn xo xp xu xd) res.1 (wMd cI ad xs res.2.1 xi xw xh xl xr res.2.2 xn xo xp xu xd) := by
  refine ctI_of .int (cc := cX4_two) (maxL := 9) (by decide) rfl (Nat.le_of_ble_eq_true rfl) ?_
  intro p e s m args below meth c A Q ls F hK hA RET hH hl
  obtain ⟨hx, hb, hml, hown, hts⟩ := id F
  have hl : lv_has ls 9 [(0, .ref (ad 0)), (1, .int v1), (2, .int v2), (3, .int v3)] := hl
  have hf : wpO (fX4_two v1 v2 v3 xs xm xe) (fun v => v = res) := ⟨_, h, rfl⟩
  obtain ⟨H, eH⟩ : ∃ H, H = s.heap := ⟨_, rfl⟩
  obtain ⟨locs, eL⟩ : ∃ locs : List Loc, locs = [] := ⟨_, rfl⟩
  have hH : Hs D A s.heap (wMd cI ad xs xm xi xw xh xl xr xe xn xo xp xu xd) H locs := by rw [eH, eL]; exact hH
  rw [← eL]
  suffices hgo : W p l e rmX4_two s m args below meth c H locs 0 0 Q (F0 m 0 ls []) by rw [eH] at hgo; exact hgo
  clear eH eL
  refine lv_aload_n hx hb dX4_two_0 rfl (lv_at hl 0 rfl) ?_
  refine lv_iload_n hx hb dX4_two_1 rfl (lv_at hl 1 rfl) ?_
  obtain ⟨x1, hcl, hf⟩ := wp_b hf
  refine k_Vi0 F hK hH hA hl.1 ⟨Nat.zero_le _, Nat.zero_le _⟩ [.int v1] [] (ctX4_isThing ad xs xm xi xw xh xl xr xe xn xo xp xu xd v1 hcl) (cwV 1 hts gX4_two_X4_isThing rfl rfl rfl hdVX4_isThing ⟨Nat.le_of_ble_eq_true rfl, Nat.le_of_ble_eq_true rfl⟩) dX4_two_2 0 rfl rfl rfl rfl rfl (Nat.le_of_ble_eq_true rfl) rfl (fun H locs hH => ?_)
  have hH : Hs D A s.heap (wMd cI ad xs xm xi xw xh xl xr xe xn xo xp xu xd) H locs := hH
  refine join_ (α := Int32) (fun Φ => ∀ (t2 : Int32) (H : Heap) (locs : List Loc) (ls : Array Slot), Φ t2 → Hs D A s.heap (wMd cI ad xs xm xi xw xh xl xr xe xn xo xp xu xd) H locs → lv_has ls 9 [(0, .ref (ad 0)), (1, .int v1), (2, .int v2), (3, .int v3)] → W p l e rmX4_two s m args below meth c H locs 0 0 Q (F0 m 32 ls [.int t2])) (wp_bb hf) ?_ ?_
  · intro t2 H locs ls hf hH hl
    refine lv_istore (lv' := [(4, .int t2), (0, .ref (ad 0)), (1, .int v1), (2, .int v2), (3, .int v3)]) hx hb dX4_two_32 hl (by decide) rfl (fun ls hl => ?_)
    refine lv_iload hx hb dX4_two_34 (lv_at hl 0 rfl) ?_
    refine lv_if_eq (tgt := 46) hx hb dX4_two_36 (by decide) (fun hc => ?_) (fun hc => ?_)
    · have hf := wp_t hc hf
      refine lv_iconst (v := 0) hx hb dX4_two_46 (by decide) ?_
      refine lv_istore (lv' := [(5, .int 0), (4, .int t2), (0, .ref (ad 0)), (1, .int v1), (2, .int v2), (3, .int v3)]) hx hb dX4_two_47 hl (by decide) rfl (fun ls hl => ?_)
      have LP : ∀ (Φ : ((Int32 × (Nat → Int32) × (Nat → Int32)) ⊕ ((Nat → Int32))) → Prop), (∀ v : Int32 × (Nat → Int32) × (Nat → Int32), Φ (.inl v) → v = res) → (∀ (t7 : (Nat → Int32)) (H : Heap) (locs : List Loc) (ls : Array Slot), Φ (.inr t7) → Hs D A s.heap (wMd cI ad xs t7 xi xw xh xl xr xe xn xo xp xu xd) H locs → lv_has ls 9 [] → W p l e rmX4_two s m args below meth c H locs 0 0 Q (F0 m 131 ls [])) → ∀ (n : Nat) (t5 : Int32) (t6 : (Nat → Int32)) (H : Heap) (locs : List Loc) (ls : Array Slot), wpO (lp (bX4_two_49 v1 v2 v3 xs xe) n (t5, t6)) Φ → Hs D A s.heap (wMd cI ad xs t6 xi xw xh xl xr xe xn xo xp xu xd) H locs → lv_has ls 9 [(0, .ref (ad 0)), (1, .int v1), (2, .int v2), (3, .int v3), (5, .int t5)] → W p l e rmX4_two s m args below meth c H locs 0 0 Q (F0 m 49 ls []) := by
        intro Φ hret EX n
        induction n with
        | zero =>
          intro t5 t6 H locs ls hf hH hl
          exact (wp_l0 hf).elim
        | succ n ih =>
          intro t5 t6 H locs ls hf hH hl
          have hf := wp_l hf
          refine lv_iload hx hb dX4_two_49 (lv_at hl 4 rfl) ?_
          refine lv_iconst (v := 4) hx hb dX4_two_51 (by decide) ?_
          refine lv_icmp_ge (tgt := 131) hx hb dX4_two_52 (by decide) (fun hc => ?_) (fun hc => ?_)
          · have hf := wp_t hc hf
            have hw := wp_out hf
            exact EX _ _ _ _ hw hH (lv_sub hl [] rfl)
          · have hf := wp_f hc hf
            refine lv_iload hx hb dX4_two_55 (lv_at hl 4 rfl) ?_
            refine lv_iconst (v := 2) hx hb dX4_two_57 (by decide) ?_
            refine lv_idiv hx hb dX4_two_58 (by decide) ?_
            refine lv_istore (lv' := [(6, .int (t5 / 2)), (0, .ref (ad 0)), (1, .int v1), (2, .int v2), (3, .int v3), (5, .int t5)]) hx hb dX4_two_59 hl (by decide) rfl (fun ls hl => ?_)
            refine lv_iload hx hb dX4_two_61 (lv_at hl 5 rfl) ?_
            refine lv_iconst (v := 2) hx hb dX4_two_63 (by decide) ?_
            refine lv_irem hx hb dX4_two_64 (by decide) ?_
            refine lv_istore (lv' := [(7, .int (irem t5 2)), (6, .int (t5 / 2)), (0, .ref (ad 0)), (1, .int v1), (2, .int v2), (3, .int v3), (5, .int t5)]) hx hb dX4_two_65 hl (by decide) rfl (fun ls hl => ?_)
            refine lv_aload_n hx hb dX4_two_67 rfl (lv_at hl 2 rfl) ?_
            refine lv_iload_n hx hb dX4_two_68 rfl (lv_at hl 3 rfl) ?_
            refine lv_iload hx hb dX4_two_69 (lv_at hl 1 rfl) ?_
            refine lv_iload_n hx hb dX4_two_71 rfl (lv_at hl 4 rfl) ?_
            refine lv_iload hx hb dX4_two_72 (lv_at hl 0 rfl) ?_
            refine lv_iload_n hx hb dX4_two_74 rfl (lv_at hl 5 rfl) ?_
            obtain ⟨x8, hcl, hf⟩ := wp_b hf
            refine k_Vi0 F hK hH hA hl.1 ⟨Nat.zero_le _, Nat.zero_le _⟩ [.int v1, .int (t5 / 2), .int v2, .int (irem t5 2), .int v3] [] (ctX4_leadBy ad xs t6 xi xw xh xl xr xe xn xo xp xu xd v1 (t5 / 2) v2 (irem t5 2) v3 hcl) (cwV 5 hts gX4_two_X4_leadBy rfl rfl rfl hdVX4_leadBy ⟨Nat.le_of_ble_eq_true rfl, Nat.le_of_ble_eq_true rfl⟩) dX4_two_75 0 rfl rfl rfl rfl rfl (Nat.le_of_ble_eq_true rfl) rfl (fun H locs hH => ?_)
            have hH : Hs D A s.heap (wMd cI ad xs x8.2 xi xw xh xl xr xe xn xo xp xu xd) H locs := hH
            refine W.eq (g2 := F0 m 78 ls [.int x8.1]) rfl ?_
            refine lv_istore (lv' := [(8, .int x8.1), (7, .int (irem t5 2)), (6, .int (t5 / 2)), (0, .ref (ad 0)), (1, .int v1), (2, .int v2), (3, .int v3), (5, .int t5)]) hx hb dX4_two_78 hl (by decide) rfl (fun ls hl => ?_)
            refine lv_aload_n hx hb dX4_two_80 rfl (lv_at hl 3 rfl) ?_
            refine lv_iload_n hx hb dX4_two_81 rfl (lv_at hl 4 rfl) ?_
            refine lv_iconst (v := 1) hx hb dX4_two_82 (by decide) ?_
            refine lv_iload hx hb dX4_two_83 (lv_at hl 2 rfl) ?_
            refine lv_isub hx hb dX4_two_85 ?_
            refine lv_iload_n hx hb dX4_two_86 rfl (lv_at hl 5 rfl) ?_
            refine lv_iload hx hb dX4_two_87 (lv_at hl 1 rfl) ?_
            refine lv_iload_n hx hb dX4_two_89 rfl (lv_at hl 6 rfl) ?_
            obtain ⟨x9, hcl, hf⟩ := wp_b hf
            refine k_Vi0 F hK hH hA hl.1 ⟨Nat.zero_le _, Nat.zero_le _⟩ [.int v1, .int (1 - (t5 / 2)), .int v2, .int (irem t5 2), .int v3] [] (ctX4_leadBy ad xs x8.2 xi xw xh xl xr xe xn xo xp xu xd v1 (1 - (t5 / 2)) v2 (irem t5 2) v3 hcl) (cwV 5 hts gX4_two_X4_leadBy rfl rfl rfl hdVX4_leadBy ⟨Nat.le_of_ble_eq_true rfl, Nat.le_of_ble_eq_true rfl⟩) dX4_two_90 0 rfl rfl rfl rfl rfl (Nat.le_of_ble_eq_true rfl) rfl (fun H locs hH => ?_)
            have hH : Hs D A s.heap (wMd cI ad xs x9.2 xi xw xh xl xr xe xn xo xp xu xd) H locs := hH
            refine W.eq (g2 := F0 m 93 ls [.int x9.1]) rfl ?_
            refine lv_iload hx hb dX4_two_93 (lv_at hl 0 rfl) ?_
            refine lv_icmp_gt (tgt := 125) hx hb dX4_two_95 (by decide) (fun hc => ?_) (fun hc => ?_)
            · have hf := wp_t hc hf
              refine lv_iinc (v := t5 + 1) (lv' := [(5, .int (t5 + 1)), (8, .int x8.1), (7, .int (irem t5 2)), (6, .int (t5 / 2)), (0, .ref (ad 0)), (1, .int v1), (2, .int v2), (3, .int v3)]) hx hb dX4_two_125 hl (k := 7) rfl rfl (by decide) rfl (fun ls hl => ?_)
              refine lv_goto (tgt := 49) hx hb dX4_two_128 (by decide) ?_
              have hw := wp_in hf
              exact ih _ _ _ _ _ hw hH (lv_sub hl [4, 5, 6, 7, 0] rfl)
            · have hf := wp_f hc hf
              refine lv_aload_n hx hb dX4_two_98 rfl (lv_at hl 3 rfl) ?_
              refine lv_iload_n hx hb dX4_two_99 rfl (lv_at hl 4 rfl) ?_
              refine lv_iload hx hb dX4_two_100 (lv_at hl 2 rfl) ?_
              refine lv_iload_n hx hb dX4_two_102 rfl (lv_at hl 5 rfl) ?_
              refine lv_iconst (v := 1) hx hb dX4_two_103 (by decide) ?_
              refine lv_iload hx hb dX4_two_104 (lv_at hl 1 rfl) ?_
              refine lv_isub hx hb dX4_two_106 ?_
              refine lv_iload_n hx hb dX4_two_107 rfl (lv_at hl 6 rfl) ?_
              obtain ⟨x10, hcl, hf⟩ := wp_b hf
              refine k_Vi0 F hK hH hA hl.1 ⟨Nat.zero_le _, Nat.zero_le _⟩ [.int v1, .int (t5 / 2), .int v2, .int (1 - (irem t5 2)), .int v3] [] (ctX4_leadBy ad xs x9.2 xi xw xh xl xr xe xn xo xp xu xd v1 (t5 / 2) v2 (1 - (irem t5 2)) v3 hcl) (cwV 5 hts gX4_two_X4_leadBy rfl rfl rfl hdVX4_leadBy ⟨Nat.le_of_ble_eq_true rfl, Nat.le_of_ble_eq_true rfl⟩) dX4_two_108 0 rfl rfl rfl rfl rfl (Nat.le_of_ble_eq_true rfl) rfl (fun H locs hH => ?_)
              have hH : Hs D A s.heap (wMd cI ad xs x10.2 xi xw xh xl xr xe xn xo xp xu xd) H locs := hH
              refine W.eq (g2 := F0 m 111 ls [.int x10.1]) rfl ?_
              refine lv_iload hx hb dX4_two_111 (lv_at hl 0 rfl) ?_
              refine lv_icmp_lt (tgt := 125) hx hb dX4_two_113 (by decide) (fun hc => ?_) (fun hc => ?_)
              · have hf := wp_t hc hf
                refine lv_iinc (v := t5 + 1) (lv' := [(5, .int (t5 + 1)), (8, .int x8.1), (7, .int (irem t5 2)), (6, .int (t5 / 2)), (0, .ref (ad 0)), (1, .int v1), (2, .int v2), (3, .int v3)]) hx hb dX4_two_125 hl (k := 7) rfl rfl (by decide) rfl (fun ls hl => ?_)
                refine lv_goto (tgt := 49) hx hb dX4_two_128 (by decide) ?_
                have hw := wp_in hf
                exact ih _ _ _ _ _ hw hH (lv_sub hl [4, 5, 6, 7, 0] rfl)
              · have hf := wp_f hc hf
                refine lv_bipush (v := 10) hx hb dX4_two_116 (by decide) ?_
                refine lv_iload hx hb dX4_two_118 (lv_at hl 2 rfl) ?_
                refine lv_imul hx hb dX4_two_120 ?_
                refine lv_iload hx hb dX4_two_121 (lv_at hl 1 rfl) ?_
                refine lv_iadd hx hb dX4_two_123 ?_
                have hrs := hret _ (wp_out hf)
                subst hrs
                exact RET H locs ls 124 dX4_two_124 rfl hH
      refine LP _ (fun v hv => by have h9 := wp_s hv; exact h9) (fun t7 H locs ls hf hH hl => ?_) fu _ _ _ _ _ (wp_bb hf) hH (lv_sub hl [2, 3, 4, 5, 0] rfl)
      refine lv_bipush (v := (-9)) hx hb dX4_two_131 (by decide) ?_
      have hrs := wp_s hf
      subst hrs
      exact RET H locs ls 133 dX4_two_133 rfl hH
    · have hf := wp_f hc hf
      refine lv_aload_n hx hb dX4_two_39 rfl (lv_at hl 1 rfl) ?_
      refine lv_iload hx hb dX4_two_40 (lv_at hl 0 rfl) ?_
      obtain ⟨x11, hcl, hf⟩ := wp_b hf
      refine k_Vi0 F hK hH hA hl.1 ⟨Nat.zero_le _, Nat.zero_le _⟩ [.int t2] [] (ctX4_no ad xs xm xi xw xh xl xr xe xn xo xp xu xd t2 hcl) (cwV 1 hts gX4_two_X4_no rfl rfl rfl hdVX4_no ⟨Nat.le_of_ble_eq_true rfl, Nat.le_of_ble_eq_true rfl⟩) dX4_two_42 0 rfl rfl rfl rfl rfl (Nat.le_of_ble_eq_true rfl) rfl (fun H locs hH => ?_)
      have hH : Hs D A s.heap (wMd cI ad xs xm xi xw xh xl xr x11.2 xn xo xp xu xd) H locs := hH
      refine W.eq (g2 := F0 m 45 ls [.int x11.1]) rfl ?_
      have hrs := wp_s hf
      subst hrs
      exact RET H locs ls 45 dX4_two_45 rfl hH
  · intro Φ JJ hf
    refine lv_if_eq (tgt := 31) hx hb dX4_two_5 (by decide) (fun hc => ?_) (fun hc => ?_)
    · have hf := wp_t hc hf
      refine lv_iconst (v := (-1)) hx hb dX4_two_31 (by decide) ?_
      have hw := wp_s hf
      exact JJ _ _ _ _ hw hH (lv_sub hl [0, 1, 2, 3] rfl)
    · have hf := wp_f hc hf
      refine lv_aload_n hx hb dX4_two_8 rfl (lv_at hl 0 rfl) ?_
      refine lv_iload_n hx hb dX4_two_9 rfl (lv_at hl 2 rfl) ?_
      obtain ⟨x3, hcl, hf⟩ := wp_b hf
      refine k_Vi0 F hK hH hA hl.1 ⟨Nat.zero_le _, Nat.zero_le _⟩ [.int v2] [] (ctX4_isThing ad xs xm xi xw xh xl xr xe xn xo xp xu xd v2 hcl) (cwV 1 hts gX4_two_X4_isThing rfl rfl rfl hdVX4_isThing ⟨Nat.le_of_ble_eq_true rfl, Nat.le_of_ble_eq_true rfl⟩) dX4_two_10 0 rfl rfl rfl rfl rfl (Nat.le_of_ble_eq_true rfl) rfl (fun H locs hH => ?_)
      have hH : Hs D A s.heap (wMd cI ad xs xm xi xw xh xl xr xe xn xo xp xu xd) H locs := hH
      refine lv_if_eq (tgt := 31) hx hb dX4_two_13 (by decide) (fun hc => ?_) (fun hc => ?_)
      · have hf := wp_t hc hf
        refine lv_iconst (v := (-1)) hx hb dX4_two_31 (by decide) ?_
        have hw := wp_s hf
        exact JJ _ _ _ _ hw hH (lv_sub hl [0, 1, 2, 3] rfl)
      · have hf := wp_f hc hf
        refine lv_iload_n hx hb dX4_two_16 rfl (lv_at hl 1 rfl) ?_
        refine lv_iload_n hx hb dX4_two_17 rfl (lv_at hl 2 rfl) ?_
        refine lv_icmp_eq (tgt := 31) hx hb dX4_two_18 (by decide) (fun hc => ?_) (fun hc => ?_)
        · have hf := wp_t hc hf
          refine lv_iconst (v := (-1)) hx hb dX4_two_31 (by decide) ?_
          have hw := wp_s hf
          exact JJ _ _ _ _ hw hH (lv_sub hl [0, 1, 2, 3] rfl)
        · have hf := wp_f hc hf
          refine lv_iload_n hx hb dX4_two_21 rfl (lv_at hl 3 rfl) ?_
          refine lv_iconst (v := 0) hx hb dX4_two_22 (by decide) ?_
          refine lv_bipush (v := 30) hx hb dX4_two_23 (by decide) ?_
          obtain ⟨x4, hcl, hf⟩ := wp_b hf
          refine k_Si F hK hH hA hl.1 ⟨Nat.zero_le _, Nat.zero_le _⟩ [] [.int v3, .int 0, .int 30] [] (ctX4_wrongBy v3 0 30 hcl) (va_cwS 3 hts gX4_two_X4_wrongBy rfl rfl rfl hdSX4_wrongBy ⟨Nat.le_of_ble_eq_true rfl, Nat.le_of_ble_eq_true rfl⟩) dX4_two_25 rfl rfl (Nat.le_of_ble_eq_true rfl) rfl rfl (by decide) (fun H locs hH => ?_)
          have hH : Hs D A s.heap (wMd cI ad xs xm xi xw xh xl xr xe xn xo xp xu xd) H locs := hH
          refine lv_goto (tgt := 32) hx hb dX4_two_28 (by decide) ?_
          have hw := wp_s hf
          exact JJ _ _ _ _ hw hH (lv_sub hl [0, 1, 2, 3] rfl)

def bX4_gcd_6  : (Int64 × Int64) → Option ((Int64 × Int64) ⊕ (Int64)) := fun ((t1, t2) : Int64 × Int64) =>
  if (lg_cmp t2 0) = 0 then
    some (.inr t1)
  else
    if t2 = 0 then none else
    some (.inl (t2, lrem t1 t2))

def fX4_gcd (v0 : Int64) (v2 : Int64) : Option (Int64) :=
  Option.bind (lp bX4_gcd_6 fu (v0, v2)) fun (t3 : Int64) =>
  some t3

def rmX4_gcd : Room := { frames := 0, cells := 0, slots := 0, locals := 0 }
theorem hdSX4_gcd : yX4_gcd.cls ≠ "java/lang/invoke/MethodHandle" ∧ yX4_gcd.cls ≠ "java/lang/invoke/VarHandle" ∧ (parseMethodDescriptor yX4_gcd.desc).map (fun d => d.parameters.length) = some 2 := by decide +kernel
set_option maxHeartbeats 4000000 in
set_option maxRecDepth 100000 in
theorem ctX4_gcd {l : Launch} {D : va_G} {cI cJ cQ : ClassId}   (v0 : Int64) (v2 : Int64) {res : Int64} (h : fX4_gcd v0 v2 = some res) : CtL l D cI cJ cQ yX4_gcd wsX4_gcd rmX4_gcd [.long v0, .long v2] ([]) res ([]) := by
  refine ctL_of (cc := cX4_gcd) (maxL := 10) (by decide) rfl (Nat.le_of_ble_eq_true rfl) ?_
  intro p e s m args below meth c A Q ls F hK hA RET hH hl
  obtain ⟨hx, hb, hml, hown, hts⟩ := id F
  have hl : lv_has ls 10 [(0, .long v0), (2, .long v2)] := hl
  have hf : wpO (fX4_gcd v0 v2) (fun v => v = res) := ⟨_, h, rfl⟩
  obtain ⟨H, eH⟩ : ∃ H, H = s.heap := ⟨_, rfl⟩
  obtain ⟨locs, eL⟩ : ∃ locs : List Loc, locs = [] := ⟨_, rfl⟩
  have hH : Hs D A s.heap ([]) H locs := by rw [eH, eL]; exact hH
  rw [← eL]
  suffices hgo : W p l e rmX4_gcd s m args below meth c H locs 0 0 Q (F0 m 0 ls []) by rw [eH] at hgo; exact hgo
  clear eH eL
  refine lv_lload_n hx hb dX4_gcd_0 rfl (lv_at hl 0 rfl) ?_
  refine lv_lstore (lv' := [(4, .long v0), (0, .long v0), (2, .long v2)]) hx hb dX4_gcd_1 hl (by decide) rfl (fun ls hl => ?_)
  refine lv_lload_n hx hb dX4_gcd_3 rfl (lv_at hl 2 rfl) ?_
  refine lv_lstore (lv' := [(6, .long v2), (4, .long v0), (0, .long v0), (2, .long v2)]) hx hb dX4_gcd_4 hl (by decide) rfl (fun ls hl => ?_)
  have LP : ∀ (Φ : (Int64) → Prop), (∀ (t3 : Int64) (H : Heap) (locs : List Loc) (ls : Array Slot), Φ (t3) → Hs D A s.heap ([]) H locs → lv_has ls 10 [(4, .long t3)] → W p l e rmX4_gcd s m args below meth c H locs 0 0 Q (F0 m 31 ls [])) → ∀ (n : Nat) (t1 : Int64) (t2 : Int64) (H : Heap) (locs : List Loc) (ls : Array Slot), wpO (lp bX4_gcd_6 n (t1, t2)) Φ → Hs D A s.heap ([]) H locs → lv_has ls 10 [(4, .long t1), (6, .long t2)] → W p l e rmX4_gcd s m args below meth c H locs 0 0 Q (F0 m 6 ls []) := by
    intro Φ EX n
    induction n with
    | zero =>
      intro t1 t2 H locs ls hf hH hl
      exact (wp_l0 hf).elim
    | succ n ih =>
      intro t1 t2 H locs ls hf hH hl
      have hf := wp_l hf
      refine lv_lload hx hb dX4_gcd_6 (lv_at hl 1 rfl) ?_
      refine lv_lconst (v := 0) hx hb dX4_gcd_8 (by decide) ?_
      refine W.lcmp hx hb dX4_gcd_9 ?_
      refine lv_if_eq (tgt := 31) hx hb dX4_gcd_10 (by decide) (fun hc => ?_) (fun hc => ?_)
      · have hf := wp_t hc hf
        have hw := wp_out hf
        exact EX _ _ _ _ hw hH (lv_sub hl [0] rfl)
      · have hf := wp_f hc hf
        refine lv_lload hx hb dX4_gcd_13 (lv_at hl 0 rfl) ?_
        refine lv_lload hx hb dX4_gcd_15 (lv_at hl 1 rfl) ?_
        obtain ⟨hz, hf⟩ := wp_n hf
        refine lv_lrem hx hb dX4_gcd_17 hz ?_
        refine lv_lstore (lv' := [(8, .long (lrem t1 t2)), (4, .long t1), (6, .long t2)]) hx hb dX4_gcd_18 hl (by decide) rfl (fun ls hl => ?_)
        refine lv_lload hx hb dX4_gcd_20 (lv_at hl 2 rfl) ?_
        refine lv_lstore (lv' := [(4, .long t2), (8, .long (lrem t1 t2)), (6, .long t2)]) hx hb dX4_gcd_22 hl (by decide) rfl (fun ls hl => ?_)
        refine lv_lload hx hb dX4_gcd_24 (lv_at hl 1 rfl) ?_
        refine lv_lstore (lv' := [(6, .long (lrem t1 t2)), (4, .long t2), (8, .long (lrem t1 t2))]) hx hb dX4_gcd_26 hl (by decide) rfl (fun ls hl => ?_)
        refine lv_goto (tgt := 6) hx hb dX4_gcd_28 (by decide) ?_
        have hw := wp_in hf
        exact ih _ _ _ _ _ hw hH (lv_sub hl [1, 0] rfl)
  refine LP _ (fun t3 H locs ls hf hH hl => ?_) fu _ _ _ _ _ (wp_bb hf) hH (lv_sub hl [1, 0] rfl)
  refine lv_lload hx hb dX4_gcd_31 (lv_at hl 0 rfl) ?_
  have hrs := wp_s hf
  subst hrs
  exact RET H locs ls 33 dX4_gcd_33 hH

def fX4_partOf (v0 : Int64) (v2 : Int64) (v4 : Int32) : Option (Int64) :=
  if (lg_cmp v0 0) = 0 then
    some (Int32.toInt64 v4)
  else
    Option.bind (if v4 = 0 then
        some v0
      else
        some v2) fun (t1 : Int64) =>
    Option.bind (fX4_gcd v0 v2) fun x2 =>
    if x2 = 0 then none else
    some (t1 / x2)

def rmX4_partOf : Room := { frames := 1, cells := 0, slots := 0, locals := 29 }
theorem hdSX4_partOf : yX4_partOf.cls ≠ "java/lang/invoke/MethodHandle" ∧ yX4_partOf.cls ≠ "java/lang/invoke/VarHandle" ∧ (parseMethodDescriptor yX4_partOf.desc).map (fun d => d.parameters.length) = some 3 := by decide +kernel
set_option maxHeartbeats 4000000 in
set_option maxRecDepth 100000 in
theorem ctX4_partOf {l : Launch} {D : va_G} {cI cJ cQ : ClassId}   (v0 : Int64) (v2 : Int64) (v4 : Int32) {res : Int64} (h : fX4_partOf v0 v2 v4 = some res) : CtL l D cI cJ cQ yX4_partOf wsX4_partOf rmX4_partOf [.long v0, .long v2, .int v4] ([]) res ([]) := by
  refine ctL_of (cc := cX4_partOf) (maxL := 5) (by decide) rfl (Nat.le_of_ble_eq_true rfl) ?_
  intro p e s m args below meth c A Q ls F hK hA RET hH hl
  obtain ⟨hx, hb, hml, hown, hts⟩ := id F
  have hl : lv_has ls 5 [(0, .long v0), (2, .long v2), (4, .int v4)] := hl
  have hf : wpO (fX4_partOf v0 v2 v4) (fun v => v = res) := ⟨_, h, rfl⟩
  obtain ⟨H, eH⟩ : ∃ H, H = s.heap := ⟨_, rfl⟩
  obtain ⟨locs, eL⟩ : ∃ locs : List Loc, locs = [] := ⟨_, rfl⟩
  have hH : Hs D A s.heap ([]) H locs := by rw [eH, eL]; exact hH
  rw [← eL]
  suffices hgo : W p l e rmX4_partOf s m args below meth c H locs 0 0 Q (F0 m 0 ls []) by rw [eH] at hgo; exact hgo
  clear eH eL
  refine lv_lload_n hx hb dX4_partOf_0 rfl (lv_at hl 0 rfl) ?_
  refine lv_lconst (v := 0) hx hb dX4_partOf_1 (by decide) ?_
  refine W.lcmp hx hb dX4_partOf_2 ?_
  refine lv_if_ne (tgt := 10) hx hb dX4_partOf_3 (by decide) (fun hc => ?_) (fun hc => ?_)
  · have hf := wp_f hc hf
    refine lv_iload hx hb dX4_partOf_10 (lv_at hl 2 rfl) ?_
    refine join_ (α := Int64) (fun Φ => ∀ (t1 : Int64) (H : Heap) (locs : List Loc) (ls : Array Slot), Φ t1 → Hs D A s.heap ([]) H locs → lv_has ls 5 [(0, .long v0), (2, .long v2)] → W p l e rmX4_partOf s m args below meth c H locs 0 0 Q (F0 m 20 ls [.long t1])) (wp_bb hf) ?_ ?_
    · intro t1 H locs ls hf hH hl
      refine lv_lload_n hx hb dX4_partOf_20 rfl (lv_at hl 0 rfl) ?_
      refine lv_lload_n hx hb dX4_partOf_21 rfl (lv_at hl 1 rfl) ?_
      obtain ⟨x2, hcl, hf⟩ := wp_b hf
      refine k_Sl F hK hH hA hl.1 ⟨Nat.zero_le _, Nat.zero_le _⟩ [] [.long v0, .long v2] [.long t1] (ctX4_gcd v0 v2 hcl) (va_cwS 2 hts gX4_partOf_X4_gcd rfl rfl rfl hdSX4_gcd ⟨Nat.le_of_ble_eq_true rfl, Nat.le_of_ble_eq_true rfl⟩) dX4_partOf_22 rfl rfl (Nat.le_of_ble_eq_true rfl) rfl rfl (by decide) (fun H locs hH => ?_)
      have hH : Hs D A s.heap ([]) H locs := hH
      obtain ⟨hz, hf⟩ := wp_n hf
      refine lv_ldiv hx hb dX4_partOf_25 hz ?_
      have hrs := wp_s hf
      subst hrs
      exact RET H locs ls 26 dX4_partOf_26 hH
    · intro Φ JJ hf
      refine lv_if_ne (tgt := 19) hx hb dX4_partOf_12 (by decide) (fun hc => ?_) (fun hc => ?_)
      · have hf := wp_f hc hf
        refine lv_lload_n hx hb dX4_partOf_19 rfl (lv_at hl 1 rfl) ?_
        have hw := wp_s hf
        exact JJ _ _ _ _ hw hH (lv_sub hl [0, 1] rfl)
      · have hf := wp_t hc hf
        refine lv_lload_n hx hb dX4_partOf_15 rfl (lv_at hl 0 rfl) ?_
        refine lv_goto (tgt := 20) hx hb dX4_partOf_16 (by decide) ?_
        have hw := wp_s hf
        exact JJ _ _ _ _ hw hH (lv_sub hl [0, 1] rfl)
  · have hf := wp_t hc hf
    refine lv_iload hx hb dX4_partOf_6 (lv_at hl 2 rfl) ?_
    refine lv_i2l (v := Int32.toInt64 v4) hx hb dX4_partOf_8 rfl ?_
    have hrs := wp_s hf
    subst hrs
    exact RET H locs ls 9 dX4_partOf_9 hH

