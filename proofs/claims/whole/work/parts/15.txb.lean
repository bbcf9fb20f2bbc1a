def fX1_fits (v1 : Int32) (v2 : Int32) (yl : (Nat → Int32)) (yt : Int32) : Option (Int32) :=
  if ob v1 96 then none else
  Option.bind (fX1_shapeBehind (yl (Int32.toNatClampNeg v1))) fun x1 =>
  if 7 ≤ x1 then none else
  if v2 = v1 then
    Option.bind (fJ0_isEmpty_aae02 x1) fun x8 =>
    if x8 = 0 then
      some 1
    else
      some 0
  else
    if ((v2 - v1) - 1) < 0 then
      some 0
    else
      Option.bind (fJ0_length_8abf5 x1) fun x2 =>
      if ((v2 - v1) - 1) < x2 then
        Option.bind (fJ0_charAt_5068e x1 ((v2 - v1) - 1)) fun x3 =>
        if x3 = 48 then
          Option.bind (fX1_digitAt v2 yl yt) fun x4 =>
          Option.bind (fX3_isWithin x4 0 9) fun x5 =>
          (bo x5).bind fun z6 =>
          some z6
        else
          if x3 = 107 then
            Option.bind (fX1_kindAt v2 yl yt) fun x7 =>
            if x7 = (-1) then
              some 0
            else
              some 1
          else
            if ob v2 96 then none else
            if (yl (Int32.toNatClampNeg v2)) = x3 then
              some 1
            else
              some 0
      else
        some 0

def rmX1_fits : Room := { frames := 5, cells := 0, slots := 0, locals := 112 }
theorem mbX1_fits_f9 : Cond.fieldLink RX1 9 (TX1 0).1 (TX1 0).2.1 (TX1 0).2.2.1 ∈ wsX1_fits := by decide +kernel
theorem inX1_fits_X1 : ∀ w ∈ wsX10, w ∈ wsX1_fits := by decide +kernel
theorem mbX1_fits_iX3 : Cond.initialized RX3 ∈ wsX1_fits := by decide +kernel
theorem mbX1_fits_sX3_isWithin : Cond.static yX3_isWithin ∈ wsX1_fits := by decide +kernel
theorem hdVX1_fits : yX1_fits.cls = RX1 ∧ yX1_fits.cls ≠ "java/lang/invoke/MethodHandle" ∧ yX1_fits.cls ≠ "java/lang/invoke/VarHandle" ∧ (parseMethodDescriptor yX1_fits.desc).map (fun d => d.parameters.length) = some 2 := by decide +kernel
set_option maxHeartbeats 4000000 in
set_option maxRecDepth 100000 in
theorem ctX1_fits {l : Launch} {D : va_G} {cI cJ cQ : ClassId} (aK aV : Nat → Nat) (ad : Nat → Nat) (yl : (Nat → Int32)) (yt : Int32) (v1 : Int32) (v2 : Int32) {res : Int32} (h : fX1_fits v1 v2 yl yt = some res) : CtIT l D cI cJ cQ aK aV yX1_fits wsX1_fits rmX1_fits [.ref (ad 0), .int v1, .int v2] (wLt cI ad yl yt) res (wLt cI ad yl yt) := by
  refine ctIT_of .boolean (cc := cX1_fits) (maxL := 6) (by decide) rfl (Nat.le_of_ble_eq_true rfl) ?_
  intro p e s m args below meth c A Q ls F hK hT hA RET hH hl
  obtain ⟨hx, hb, hml, hown, hts⟩ := id F
  have hl : lv_has ls 6 [(0, .ref (ad 0)), (1, .int v1), (2, .int v2)] := hl
  have hf : wpO (fX1_fits v1 v2 yl yt) (fun v => v = res) := ⟨_, h, rfl⟩
  obtain ⟨H, eH⟩ : ∃ H, H = s.heap := ⟨_, rfl⟩
  obtain ⟨locs, eL⟩ : ∃ locs : List Loc, locs = [] := ⟨_, rfl⟩
  have hH : Hs D A s.heap (wLt cI ad yl yt) H locs := by rw [eH, eL]; exact hH
  rw [← eL]
  suffices hgo : W p l e rmX1_fits s m args below meth c H locs 0 0 Q (F0 m 0 ls []) by rw [eH] at hgo; exact hgo
  clear eH eL
  refine lv_aload_n hx hb dX1_fits_0 rfl (lv_at hl 0 rfl) ?_
  refine k_get (v := .ref (ad 1)) F hK hH 0 inX1_fits_X1 0 mbX1_fits_f9 dX1_fits_1 rfl rfl (by decide) rfl ?_
  refine lv_iload_n hx hb dX1_fits_4 rfl (lv_at hl 1 rfl) ?_
  obtain ⟨hi, hf⟩ := wp_n hf
  refine k_iald (f := yl) (n := 96) F hK hH 1 dX1_fits_5 hi rfl ?_
  obtain ⟨x1, hcl, hf⟩ := wp_b hf
  refine k_SrT F hK hT hH hA hl.1 ⟨Nat.zero_le _, Nat.zero_le _⟩ [] [.int (yl (Int32.toNatClampNeg v1))] [] (ctX1_shapeBehind aK aV (yl (Int32.toNatClampNeg v1)) hcl) (va_cwS 1 hts gX1_fits_X1_shapeBehind rfl rfl rfl hdSX1_shapeBehind ⟨Nat.le_of_ble_eq_true rfl, Nat.le_of_ble_eq_true rfl⟩) dX1_fits_6 rfl rfl (Nat.le_of_ble_eq_true rfl) rfl rfl (by decide) (fun H locs hH => ?_)
  have hH : Hs D A s.heap (wLt cI ad yl yt) H locs := hH
  obtain ⟨h7, hf⟩ := wp_n hf
  have hsx_x1 : x1 < 7 := Nat.not_le.mp h7
  refine lv_astore_n (lv' := [(3, .ref (aK x1)), (0, .ref (ad 0)), (1, .int v1), (2, .int v2)]) hx hb dX1_fits_9 rfl hl (by decide) rfl (fun ls hl => ?_)
  refine lv_iload_n hx hb dX1_fits_10 rfl (lv_at hl 3 rfl) ?_
  refine lv_iload_n hx hb dX1_fits_11 rfl (lv_at hl 2 rfl) ?_
  refine lv_icmp_ne (tgt := 28) hx hb dX1_fits_12 (by decide) (fun hc => ?_) (fun hc => ?_)
  · have hf := wp_f hc hf
    refine lv_iload_n hx hb dX1_fits_28 rfl (lv_at hl 3 rfl) ?_
    refine lv_iload_n hx hb dX1_fits_29 rfl (lv_at hl 2 rfl) ?_
    refine lv_isub hx hb dX1_fits_30 ?_
    refine lv_iconst (v := 1) hx hb dX1_fits_31 (by decide) ?_
    refine lv_isub hx hb dX1_fits_32 ?_
    refine lv_istore (lv' := [(4, .int ((v2 - v1) - 1)), (3, .ref (aK x1)), (0, .ref (ad 0)), (1, .int v1), (2, .int v2)]) hx hb dX1_fits_33 hl (by decide) rfl (fun ls hl => ?_)
    refine lv_iload hx hb dX1_fits_35 (lv_at hl 0 rfl) ?_
    refine lv_if_lt (tgt := 49) hx hb dX1_fits_37 (by decide) (fun hc => ?_) (fun hc => ?_)
    · have hf := wp_t hc hf
      refine lv_iconst (v := 0) hx hb dX1_fits_49 (by decide) ?_
      have hrs := wp_s hf
      subst hrs
      exact RET H locs ls 50 dX1_fits_50 (by show narrow .boolean (.int 0) = .int 0; rfl) hH
    · have hf := wp_f hc hf
      refine lv_iload hx hb dX1_fits_40 (lv_at hl 0 rfl) ?_
      refine lv_aload_n hx hb dX1_fits_42 rfl (lv_at hl 1 rfl) ?_
      obtain ⟨x2, hcl, hf⟩ := wp_b hf
      refine k_ViT F hK hT hH hA hl.1 ⟨Nat.zero_le _, Nat.zero_le _⟩ [] [] [.int ((v2 - v1) - 1)] (ctJ0_length_8abf5 aK aV x1 hsx_x1 hcl) (cwV 0 hts gX1_fits_J0_length_8abf5 rfl rfl rfl hdVJ0_length_8abf5 ⟨Nat.le_of_ble_eq_true rfl, Nat.le_of_ble_eq_true rfl⟩) dX1_fits_43 (vk_recv hT.1 hsx_x1 hH.2.2) rfl rfl (Nat.le_of_ble_eq_true rfl) rfl rfl (by decide) (fun H locs hH => ?_)
      have hH : Hs D A s.heap (wLt cI ad yl yt) H locs := hH
      refine lv_icmp_lt (tgt := 51) hx hb dX1_fits_46 (by decide) (fun hc => ?_) (fun hc => ?_)
      · have hf := wp_t hc hf
        refine lv_aload_n hx hb dX1_fits_51 rfl (lv_at hl 1 rfl) ?_
        refine lv_iload hx hb dX1_fits_52 (lv_at hl 0 rfl) ?_
        obtain ⟨x3, hcl, hf⟩ := wp_b hf
        refine k_ViT F hK hT hH hA hl.1 ⟨Nat.zero_le _, Nat.zero_le _⟩ [] [.int ((v2 - v1) - 1)] [] (ctJ0_charAt_5068e aK aV x1 hsx_x1 ((v2 - v1) - 1) hcl) (cwV 1 hts gX1_fits_J0_charAt_5068e rfl rfl rfl hdVJ0_charAt_5068e ⟨Nat.le_of_ble_eq_true rfl, Nat.le_of_ble_eq_true rfl⟩) dX1_fits_54 (vk_recv hT.1 hsx_x1 hH.2.2) rfl rfl (Nat.le_of_ble_eq_true rfl) rfl rfl (by decide) (fun H locs hH => ?_)
        have hH : Hs D A s.heap (wLt cI ad yl yt) H locs := hH
        refine lv_istore (lv' := [(5, .int x3), (4, .int ((v2 - v1) - 1)), (3, .ref (aK x1)), (0, .ref (ad 0)), (1, .int v1), (2, .int v2)]) hx hb dX1_fits_57 hl (by decide) rfl (fun ls hl => ?_)
        refine lv_iload hx hb dX1_fits_59 (lv_at hl 0 rfl) ?_
        by_cases hc0 : x3 = 48
        · have hf := wp_t hc0 hf
          refine lv_lookup (off := 42) (tgt := 103) hx hb dX1_fits_61 rfl (by rw [hc0]; try rfl) (by decide) ?_
          refine lv_aload_n hx hb dX1_fits_103 rfl (lv_at hl 3 rfl) ?_
          refine lv_iload_n hx hb dX1_fits_104 rfl (lv_at hl 5 rfl) ?_
          obtain ⟨x4, hcl, hf⟩ := wp_b hf
          refine k_Vi0 F hK hH hA hl.1 ⟨Nat.zero_le _, Nat.zero_le _⟩ [.int v2] [] (ctX1_digitAt ad yl yt v2 hcl) (cwV 1 hts gX1_fits_X1_digitAt rfl rfl rfl hdVX1_digitAt ⟨Nat.le_of_ble_eq_true rfl, Nat.le_of_ble_eq_true rfl⟩) dX1_fits_105 0 rfl rfl rfl rfl rfl (Nat.le_of_ble_eq_true rfl) rfl (fun H locs hH => ?_)
          have hH : Hs D A s.heap (wLt cI ad yl yt) H locs := hH
          refine lv_iconst (v := 0) hx hb dX1_fits_108 (by decide) ?_
          refine lv_bipush (v := 9) hx hb dX1_fits_109 (by decide) ?_
          obtain ⟨x5, hcl, hf⟩ := wp_b hf
          refine k_Ni F hK hH hA hl.1 ⟨Nat.zero_le _, Nat.zero_le _⟩ [] [.int x4, .int 0, .int 9] [] (ctX3_isWithin x4 0 9 hcl) ⟨va_cnB (host := "LawFromTheTree") 3 hts gX1_fits_X3_isWithin_n55 rfl rfl rfl hK.2.2.1 (hts _ mbX1_fits_iX3) hdSX3_isWithin ⟨Nat.le_of_ble_eq_true rfl, Nat.le_of_ble_eq_true rfl⟩, hts _ mbX1_fits_sX3_isWithin, trivial⟩ dX1_fits_111 rfl rfl (Nat.le_of_ble_eq_true rfl) rfl rfl (by decide) (fun H locs hH => ?_)
          have hH : Hs D A s.heap (wLt cI ad yl yt) H locs := hH
          obtain ⟨z6, hbo, hf⟩ := wp_b hf
          obtain ⟨hbe, hnb⟩ := bo_narrow hbo
          rw [hbe] at hf
          have hrs := wp_s hf
          subst hrs
          exact RET H locs ls 114 dX1_fits_114 hnb hH
        · have hf := wp_f hc0 hf
          by_cases hc1 : x3 = 107
          · have hf := wp_t hc1 hf
            refine lv_lookup (off := 27) (tgt := 88) hx hb dX1_fits_61 rfl (by rw [hc1]; try rfl) (by decide) ?_
            refine lv_aload_n hx hb dX1_fits_88 rfl (lv_at hl 3 rfl) ?_
            refine lv_iload_n hx hb dX1_fits_89 rfl (lv_at hl 5 rfl) ?_
            obtain ⟨x7, hcl, hf⟩ := wp_b hf
            refine k_ViT F hK hT hH hA hl.1 ⟨Nat.zero_le _, Nat.zero_le _⟩ [0, 1] [.int v2] [] (ctX1_kindAt aK aV ad yl yt v2 hcl) (cwV 1 hts gX1_fits_X1_kindAt rfl rfl rfl hdVX1_kindAt ⟨Nat.le_of_ble_eq_true rfl, Nat.le_of_ble_eq_true rfl⟩) dX1_fits_90 (va_recv hK.1 hH.1 (ci := 1) (q0 := 0) rfl rfl) rfl rfl (Nat.le_of_ble_eq_true rfl) rfl rfl (by decide) (fun H locs hH => ?_)
            have hH : Hs D A s.heap (wLt cI ad yl yt) H locs := hH
            refine lv_iconst (v := (-1)) hx hb dX1_fits_93 (by decide) ?_
            refine lv_icmp_eq (tgt := 101) hx hb dX1_fits_94 (by decide) (fun hc => ?_) (fun hc => ?_)
            · have hf := wp_t hc hf
              refine lv_iconst (v := 0) hx hb dX1_fits_101 (by decide) ?_
              have hrs := wp_s hf
              subst hrs
              exact RET H locs ls 102 dX1_fits_102 (by show narrow .boolean (.int 0) = .int 0; rfl) hH
            · have hf := wp_f hc hf
              refine lv_iconst (v := 1) hx hb dX1_fits_97 (by decide) ?_
              refine lv_goto (tgt := 102) hx hb dX1_fits_98 (by decide) ?_
              have hrs := wp_s hf
              subst hrs
              exact RET H locs ls 102 dX1_fits_102 (by show narrow .boolean (.int 1) = .int 1; rfl) hH
          · have hf := wp_f hc1 hf
            refine lv_lookup (off := 54) (tgt := 115) hx hb dX1_fits_61 rfl (by show Op.lookupswitch.offset [(48, 42), (107, 27)] 54 (Int32.toInt x3) = 54; rw [lv_osw (a := 48) hc0 rfl, lv_osw (a := 107) hc1 rfl]; try rfl) (by decide) ?_
            refine lv_aload_n hx hb dX1_fits_115 rfl (lv_at hl 3 rfl) ?_
            refine k_get (v := .ref (ad 1)) F hK hH 0 inX1_fits_X1 0 mbX1_fits_f9 dX1_fits_116 rfl rfl (by decide) rfl ?_
            refine lv_iload_n hx hb dX1_fits_119 rfl (lv_at hl 5 rfl) ?_
            obtain ⟨hi, hf⟩ := wp_n hf
            refine k_iald (f := yl) (n := 96) F hK hH 1 dX1_fits_120 hi rfl ?_
            refine lv_iload hx hb dX1_fits_121 (lv_at hl 0 rfl) ?_
            refine lv_icmp_ne (tgt := 130) hx hb dX1_fits_123 (by decide) (fun hc => ?_) (fun hc => ?_)
            · have hf := wp_f hc hf
              refine lv_iconst (v := 0) hx hb dX1_fits_130 (by decide) ?_
              have hrs := wp_s hf
              subst hrs
              exact RET H locs ls 131 dX1_fits_131 (by show narrow .boolean (.int 0) = .int 0; rfl) hH
            · have hf := wp_t hc hf
              refine lv_iconst (v := 1) hx hb dX1_fits_126 (by decide) ?_
              refine lv_goto (tgt := 131) hx hb dX1_fits_127 (by decide) ?_
              have hrs := wp_s hf
              subst hrs
              exact RET H locs ls 131 dX1_fits_131 (by show narrow .boolean (.int 1) = .int 1; rfl) hH
      · have hf := wp_f hc hf
        refine lv_iconst (v := 0) hx hb dX1_fits_49 (by decide) ?_
        have hrs := wp_s hf
        subst hrs
        exact RET H locs ls 50 dX1_fits_50 (by show narrow .boolean (.int 0) = .int 0; rfl) hH
  · have hf := wp_t hc hf
    refine lv_aload_n hx hb dX1_fits_15 rfl (lv_at hl 0 rfl) ?_
    obtain ⟨x8, hcl, hf⟩ := wp_b hf
    refine k_ViT F hK hT hH hA hl.1 ⟨Nat.zero_le _, Nat.zero_le _⟩ [] [] [] (ctJ0_isEmpty_aae02 aK aV x1 hsx_x1 hcl) (cwV 0 hts gX1_fits_J0_isEmpty_aae02 rfl rfl rfl hdVJ0_isEmpty_aae02 ⟨Nat.le_of_ble_eq_true rfl, Nat.le_of_ble_eq_true rfl⟩) dX1_fits_16 (vk_recv hT.1 hsx_x1 hH.2.2) rfl rfl (Nat.le_of_ble_eq_true rfl) rfl rfl (by decide) (fun H locs hH => ?_)
    have hH : Hs D A s.heap (wLt cI ad yl yt) H locs := hH
    refine lv_if_ne (tgt := 26) hx hb dX1_fits_19 (by decide) (fun hc => ?_) (fun hc => ?_)
    · have hf := wp_f hc hf
      refine lv_iconst (v := 0) hx hb dX1_fits_26 (by decide) ?_
      have hrs := wp_s hf
      subst hrs
      exact RET H locs ls 27 dX1_fits_27 (by show narrow .boolean (.int 0) = .int 0; rfl) hH
    · have hf := wp_t hc hf
      refine lv_iconst (v := 1) hx hb dX1_fits_22 (by decide) ?_
      refine lv_goto (tgt := 27) hx hb dX1_fits_23 (by decide) ?_
      have hrs := wp_s hf
      subst hrs
      exact RET H locs ls 27 dX1_fits_27 (by show narrow .boolean (.int 1) = .int 1; rfl) hH

def bX1_firstMisfit_4 (yl : (Nat → Int32)) (yt : Int32) : (Int32 × Int32) → Option ((Int32 × Int32) ⊕ ((Int32) ⊕ (Int32))) := fun ((t1, t2) : Int32 × Int32) =>
  if yt ≤ t2 then
    some (.inr (.inr t1))
  else
    Option.bind (fX1_fits t1 t2 yl yt) fun x4 =>
    if x4 = 0 then
      some (.inr (.inl t2))
    else
      if ob t2 96 then none else
      if (yl (Int32.toNatClampNeg t2)) = 59 then
        some (.inl (t2 + 1, t2 + 1))
      else
        some (.inl (t1, t2 + 1))

def fX1_firstMisfit (yl : (Nat → Int32)) (yt : Int32) : Option (Int32) :=
  Option.bind (lp (bX1_firstMisfit_4 yl yt) fu (0, 0)) (el (fun v => some v) (fun (t3 : Int32) =>
    if yt = 0 then
      some yt
    else
      if yt ≤ t3 then
        some (-1)
      else
        some yt))

def rmX1_firstMisfit : Room := { frames := 6, cells := 0, slots := 0, locals := 137 }
theorem mbX1_firstMisfit_f15 : Cond.fieldLink RX1 15 (TX1 1).1 (TX1 1).2.1 (TX1 1).2.2.1 ∈ wsX1_firstMisfit := by decide +kernel
theorem inX1_firstMisfit_X1 : ∀ w ∈ wsX10, w ∈ wsX1_firstMisfit := by decide +kernel
theorem mbX1_firstMisfit_f9 : Cond.fieldLink RX1 9 (TX1 0).1 (TX1 0).2.1 (TX1 0).2.2.1 ∈ wsX1_firstMisfit := by decide +kernel
theorem hdVX1_firstMisfit : yX1_firstMisfit.cls = RX1 ∧ yX1_firstMisfit.cls ≠ "java/lang/invoke/MethodHandle" ∧ yX1_firstMisfit.cls ≠ "java/lang/invoke/VarHandle" ∧ (parseMethodDescriptor yX1_firstMisfit.desc).map (fun d => d.parameters.length) = some 0 := by decide +kernel
set_option maxHeartbeats 4000000 in
set_option maxRecDepth 100000 in
theorem ctX1_firstMisfit {l : Launch} {D : va_G} {cI cJ cQ : ClassId} (aK aV : Nat → Nat) (ad : Nat → Nat) (yl : (Nat → Int32)) (yt : Int32)  {res : Int32} (h : fX1_firstMisfit yl yt = some res) : CtIT l D cI cJ cQ aK aV yX1_firstMisfit wsX1_firstMisfit rmX1_firstMisfit [.ref (ad 0)] (wLt cI ad yl yt) res (wLt cI ad yl yt) := by
  refine ctIT_of .int (cc := cX1_firstMisfit) (maxL := 3) (by decide) rfl (Nat.le_of_ble_eq_true rfl) ?_
  intro p e s m args below meth c A Q ls F hK hT hA RET hH hl
  obtain ⟨hx, hb, hml, hown, hts⟩ := id F
  have hl : lv_has ls 3 [(0, .ref (ad 0))] := hl
  have hf : wpO (fX1_firstMisfit yl yt) (fun v => v = res) := ⟨_, h, rfl⟩
  obtain ⟨H, eH⟩ : ∃ H, H = s.heap := ⟨_, rfl⟩
  obtain ⟨locs, eL⟩ : ∃ locs : List Loc, locs = [] := ⟨_, rfl⟩
  have hH : Hs D A s.heap (wLt cI ad yl yt) H locs := by rw [eH, eL]; exact hH
  rw [← eL]
  suffices hgo : W p l e rmX1_firstMisfit s m args below meth c H locs 0 0 Q (F0 m 0 ls []) by rw [eH] at hgo; exact hgo
  clear eH eL
  refine lv_iconst (v := 0) hx hb dX1_firstMisfit_0 (by decide) ?_
  refine lv_istore_n (lv' := [(1, .int 0), (0, .ref (ad 0))]) hx hb dX1_firstMisfit_1 rfl hl (by decide) rfl (fun ls hl => ?_)
  refine lv_iconst (v := 0) hx hb dX1_firstMisfit_2 (by decide) ?_
  refine lv_istore_n (lv' := [(2, .int 0), (1, .int 0), (0, .ref (ad 0))]) hx hb dX1_firstMisfit_3 rfl hl (by decide) rfl (fun ls hl => ?_)
  have LP : ∀ (Φ : ((Int32) ⊕ (Int32)) → Prop), (∀ v : Int32, Φ (.inl v) → v = res) → (∀ (t3 : Int32) (H : Heap) (locs : List Loc) (ls : Array Slot), Φ (.inr t3) → Hs D A s.heap (wLt cI ad yl yt) H locs → lv_has ls 3 [(0, .ref (ad 0)), (1, .int t3)] → W p l e rmX1_firstMisfit s m args below meth c H locs 0 0 Q (F0 m 44 ls [])) → ∀ (n : Nat) (t1 : Int32) (t2 : Int32) (H : Heap) (locs : List Loc) (ls : Array Slot), wpO (lp (bX1_firstMisfit_4 yl yt) n (t1, t2)) Φ → Hs D A s.heap (wLt cI ad yl yt) H locs → lv_has ls 3 [(0, .ref (ad 0)), (1, .int t1), (2, .int t2)] → W p l e rmX1_firstMisfit s m args below meth c H locs 0 0 Q (F0 m 4 ls []) := by
    intro Φ hret EX n
    induction n with
    | zero =>
      intro t1 t2 H locs ls hf hH hl
      exact (wp_l0 hf).elim
    | succ n ih =>
      intro t1 t2 H locs ls hf hH hl
      have hf := wp_l hf
      refine lv_iload_n hx hb dX1_firstMisfit_4 rfl (lv_at hl 2 rfl) ?_
      refine lv_aload_n hx hb dX1_firstMisfit_5 rfl (lv_at hl 0 rfl) ?_
      refine k_get (v := .int yt) F hK hH 0 inX1_firstMisfit_X1 1 mbX1_firstMisfit_f15 dX1_firstMisfit_6 rfl rfl (by decide) rfl ?_
      refine lv_icmp_ge (tgt := 44) hx hb dX1_firstMisfit_9 (by decide) (fun hc => ?_) (fun hc => ?_)
      · have hf := wp_t hc hf
        have hw := wp_out hf
        exact EX _ _ _ _ hw hH (lv_sub hl [0, 1] rfl)
      · have hf := wp_f hc hf
        refine lv_aload_n hx hb dX1_firstMisfit_12 rfl (lv_at hl 0 rfl) ?_
        refine lv_iload_n hx hb dX1_firstMisfit_13 rfl (lv_at hl 1 rfl) ?_
        refine lv_iload_n hx hb dX1_firstMisfit_14 rfl (lv_at hl 2 rfl) ?_
        obtain ⟨x4, hcl, hf⟩ := wp_b hf
        refine k_ViT F hK hT hH hA hl.1 ⟨Nat.zero_le _, Nat.zero_le _⟩ [0, 1] [.int t1, .int t2] [] (ctX1_fits aK aV ad yl yt t1 t2 hcl) (cwV 2 hts gX1_firstMisfit_X1_fits rfl rfl rfl hdVX1_fits ⟨Nat.le_of_ble_eq_true rfl, Nat.le_of_ble_eq_true rfl⟩) dX1_firstMisfit_15 (va_recv hK.1 hH.1 (ci := 1) (q0 := 0) rfl rfl) rfl rfl (Nat.le_of_ble_eq_true rfl) rfl rfl (by decide) (fun H locs hH => ?_)
        have hH : Hs D A s.heap (wLt cI ad yl yt) H locs := hH
        refine lv_if_ne (tgt := 23) hx hb dX1_firstMisfit_18 (by decide) (fun hc => ?_) (fun hc => ?_)
        · have hf := wp_f hc hf
          refine lv_aload_n hx hb dX1_firstMisfit_23 rfl (lv_at hl 0 rfl) ?_
          refine k_get (v := .ref (ad 1)) F hK hH 0 inX1_firstMisfit_X1 0 mbX1_firstMisfit_f9 dX1_firstMisfit_24 rfl rfl (by decide) rfl ?_
          refine lv_iload_n hx hb dX1_firstMisfit_27 rfl (lv_at hl 2 rfl) ?_
          obtain ⟨hi, hf⟩ := wp_n hf
          refine k_iald (f := yl) (n := 96) F hK hH 1 dX1_firstMisfit_28 hi rfl ?_
          refine lv_bipush (v := 59) hx hb dX1_firstMisfit_29 (by decide) ?_
          refine lv_icmp_ne (tgt := 38) hx hb dX1_firstMisfit_31 (by decide) (fun hc => ?_) (fun hc => ?_)
          · have hf := wp_f hc hf
            refine lv_iinc (v := t2 + 1) (lv' := [(2, .int (t2 + 1)), (0, .ref (ad 0)), (1, .int t1)]) hx hb dX1_firstMisfit_38 hl (k := 2) rfl rfl (by decide) rfl (fun ls hl => ?_)
            refine lv_goto (tgt := 4) hx hb dX1_firstMisfit_41 (by decide) ?_
            have hw := wp_in hf
            exact ih _ _ _ _ _ hw hH (lv_sub hl [1, 2, 0] rfl)
          · have hf := wp_t hc hf
            refine lv_iload_n hx hb dX1_firstMisfit_34 rfl (lv_at hl 2 rfl) ?_
            refine lv_iconst (v := 1) hx hb dX1_firstMisfit_35 (by decide) ?_
            refine lv_iadd hx hb dX1_firstMisfit_36 ?_
            refine lv_istore_n (lv' := [(1, .int (t2 + 1)), (0, .ref (ad 0)), (2, .int t2)]) hx hb dX1_firstMisfit_37 rfl hl (by decide) rfl (fun ls hl => ?_)
            refine lv_iinc (v := t2 + 1) (lv' := [(2, .int (t2 + 1)), (1, .int (t2 + 1)), (0, .ref (ad 0))]) hx hb dX1_firstMisfit_38 hl (k := 2) rfl rfl (by decide) rfl (fun ls hl => ?_)
            refine lv_goto (tgt := 4) hx hb dX1_firstMisfit_41 (by decide) ?_
            have hw := wp_in hf
            exact ih _ _ _ _ _ hw hH (lv_sub hl [2, 1, 0] rfl)
        · have hf := wp_t hc hf
          refine lv_iload_n hx hb dX1_firstMisfit_21 rfl (lv_at hl 2 rfl) ?_
          have hrs := hret _ (wp_out hf)
          subst hrs
          exact RET H locs ls 22 dX1_firstMisfit_22 rfl hH
  refine LP _ (fun v hv => by have h9 := wp_s hv; exact h9) (fun t3 H locs ls hf hH hl => ?_) fu _ _ _ _ _ (wp_bb hf) hH (lv_sub hl [2, 1, 0] rfl)
  refine lv_aload_n hx hb dX1_firstMisfit_44 rfl (lv_at hl 0 rfl) ?_
  refine k_get (v := .int yt) F hK hH 0 inX1_firstMisfit_X1 1 mbX1_firstMisfit_f15 dX1_firstMisfit_45 rfl rfl (by decide) rfl ?_
  refine lv_if_eq (tgt := 59) hx hb dX1_firstMisfit_48 (by decide) (fun hc => ?_) (fun hc => ?_)
  · have hf := wp_t hc hf
    refine lv_aload_n hx hb dX1_firstMisfit_59 rfl (lv_at hl 0 rfl) ?_
    refine k_get (v := .int yt) F hK hH 0 inX1_firstMisfit_X1 1 mbX1_firstMisfit_f15 dX1_firstMisfit_60 rfl rfl (by decide) rfl ?_
    refine lv_goto (tgt := 67) hx hb dX1_firstMisfit_63 (by decide) ?_
    have hrs := wp_s hf
    subst hrs
    exact RET H locs ls 67 dX1_firstMisfit_67 rfl hH
  · have hf := wp_f hc hf
    refine lv_iload_n hx hb dX1_firstMisfit_51 rfl (lv_at hl 1 rfl) ?_
    refine lv_aload_n hx hb dX1_firstMisfit_52 rfl (lv_at hl 0 rfl) ?_
    refine k_get (v := .int yt) F hK hH 0 inX1_firstMisfit_X1 1 mbX1_firstMisfit_f15 dX1_firstMisfit_53 rfl rfl (by decide) rfl ?_
    refine lv_icmp_ge (tgt := 66) hx hb dX1_firstMisfit_56 (by decide) (fun hc => ?_) (fun hc => ?_)
    · have hf := wp_t hc hf
      refine lv_iconst (v := (-1)) hx hb dX1_firstMisfit_66 (by decide) ?_
      have hrs := wp_s hf
      subst hrs
      exact RET H locs ls 67 dX1_firstMisfit_67 rfl hH
    · have hf := wp_f hc hf
      refine lv_aload_n hx hb dX1_firstMisfit_59 rfl (lv_at hl 0 rfl) ?_
      refine k_get (v := .int yt) F hK hH 0 inX1_firstMisfit_X1 1 mbX1_firstMisfit_f15 dX1_firstMisfit_60 rfl rfl (by decide) rfl ?_
      refine lv_goto (tgt := 67) hx hb dX1_firstMisfit_63 (by decide) ?_
      have hrs := wp_s hf
      subst hrs
      exact RET H locs ls 67 dX1_firstMisfit_67 rfl hH

def fX1_tell (v2 : Int32) (yl : (Nat → Int32)) (yt : Int32) (g : LandT) : Option (Int32 × LandT) :=
  if ob v2 96 then none else
  if (yl (Int32.toNatClampNeg v2)) = 99 then
    Option.bind (fX1_twoDigitsAt (v2 + 1) yl yt) fun x1 =>
    Option.bind (fX1_digitAt (v2 + 3) yl yt) fun x2 =>
    Option.bind (fX1_tellHeight x1 x2 g) fun x3 =>
    (bo x3.1).bind fun z4 =>
    some (z4, x3.2)
  else
    if (yl (Int32.toNatClampNeg v2)) = 100 then
      Option.bind (fX1_digitAt (v2 + 1) yl yt) fun x5 =>
      Option.bind (fX1_twoDigitsAt (v2 + 2) yl yt) fun x6 =>
      Option.bind (fX1_tellDriven x5 x6 g) fun x7 =>
      (bo x7.1).bind fun z8 =>
      some (z8, x7.2)
    else
      if (yl (Int32.toNatClampNeg v2)) = 101 then
        Option.bind (fX1_twoDigitsAt (v2 + 1) yl yt) fun x9 =>
        Option.bind (fX1_tellEyes x9 g) fun x10 =>
        (bo x10.1).bind fun z11 =>
        some (z11, x10.2)
      else
        if (yl (Int32.toNatClampNeg v2)) = 104 then
          Option.bind (fX1_twoDigitsAt (v2 + 1) yl yt) fun x12 =>
          Option.bind (fX1_tellHours x12 g) fun x13 =>
          (bo x13.1).bind fun z14 =>
          some (z14, x13.2)
        else
          if (yl (Int32.toNatClampNeg v2)) = 116 then
            Option.bind (fX1_kindAt (v2 + 1) yl yt) fun x15 =>
            Option.bind (fX1_digitAt (v2 + 2) yl yt) fun x16 =>
            Option.bind (fX1_twoDigitsAt (v2 + 3) yl yt) fun x17 =>
            Option.bind (fX1_tellThing x15 x16 x17 g) fun x18 =>
            (bo x18.1).bind fun z19 =>
            some (z19, x18.2)
          else
            if (yl (Int32.toNatClampNeg v2)) = 118 then
              Option.bind (fX1_kindAt (v2 + 1) yl yt) fun x20 =>
              Option.bind (fX1_digitAt (v2 + 2) yl yt) fun x21 =>
              Option.bind (fX1_digitAt (v2 + 3) yl yt) fun x22 =>
              Option.bind (fX1_tellCode x20 x21 x22 g) fun x23 =>
              (bo x23.1).bind fun z24 =>
              some (z24, x23.2)
            else
              if (yl (Int32.toNatClampNeg v2)) = 120 then
                Option.bind (fX1_digitAt (v2 + 1) yl yt) fun x25 =>
                Option.bind (fX1_tellHidden x25 g) fun x26 =>
                (bo x26.1).bind fun z27 =>
                some (z27, x26.2)
              else
                some (0, g)

def rmX1_tell : Room := { frames := 5, cells := 0, slots := 0, locals := 112 }
theorem mbX1_tell_f9 : Cond.fieldLink RX1 9 (TX1 0).1 (TX1 0).2.1 (TX1 0).2.2.1 ∈ wsX1_tell := by decide +kernel
theorem inX1_tell_X1 : ∀ w ∈ wsX10, w ∈ wsX1_tell := by decide +kernel
theorem hdVX1_tell : yX1_tell.cls = RX1 ∧ yX1_tell.cls ≠ "java/lang/invoke/MethodHandle" ∧ yX1_tell.cls ≠ "java/lang/invoke/VarHandle" ∧ (parseMethodDescriptor yX1_tell.desc).map (fun d => d.parameters.length) = some 2 := by decide +kernel
set_option maxHeartbeats 4000000 in
set_option maxRecDepth 100000 in
theorem ctX1_tell {l : Launch} {D : va_G} {cI cJ cQ : ClassId} (aK aV : Nat → Nat) (ad : Nat → Nat) (bd : Nat → Nat) (yl : (Nat → Int32)) (yt : Int32) (g : LandT) (v2 : Int32) {res : Int32 × LandT} (h : fX1_tell v2 yl yt g = some res) : CtIT l D cI cJ cQ aK aV yX1_tell wsX1_tell rmX1_tell [.ref (ad 0), .ref (bd 0), .int v2] (wLt cI ad yl yt ++ wLd cI bd g) res.1 (wLt cI ad yl yt ++ wLd cI bd res.2) := by
  refine ctIT_of .boolean (cc := cX1_tell) (maxL := 3) (by decide) rfl (Nat.le_of_ble_eq_true rfl) ?_
  intro p e s m args below meth c A Q ls F hK hT hA RET hH hl
  obtain ⟨hx, hb, hml, hown, hts⟩ := id F
  have hl : lv_has ls 3 [(0, .ref (ad 0)), (1, .ref (bd 0)), (2, .int v2)] := hl
  have hf : wpO (fX1_tell v2 yl yt g) (fun v => v = res) := ⟨_, h, rfl⟩
  obtain ⟨H, eH⟩ : ∃ H, H = s.heap := ⟨_, rfl⟩
  obtain ⟨locs, eL⟩ : ∃ locs : List Loc, locs = [] := ⟨_, rfl⟩
  have hH : Hs D A s.heap (wLt cI ad yl yt ++ wLd cI bd g) H locs := by rw [eH, eL]; exact hH
  rw [← eL]
  suffices hgo : W p l e rmX1_tell s m args below meth c H locs 0 0 Q (F0 m 0 ls []) by rw [eH] at hgo; exact hgo
  clear eH eL
  refine lv_aload_n hx hb dX1_tell_0 rfl (lv_at hl 0 rfl) ?_
  refine k_get (v := .ref (ad 1)) F hK hH 0 inX1_tell_X1 0 mbX1_tell_f9 dX1_tell_1 rfl rfl (by decide) rfl ?_
  refine lv_iload_n hx hb dX1_tell_4 rfl (lv_at hl 2 rfl) ?_
  obtain ⟨hi, hf⟩ := wp_n hf
  refine k_iald (f := yl) (n := 96) F hK hH 1 dX1_tell_5 hi rfl ?_
  by_cases hc0 : (yl (Int32.toNatClampNeg v2)) = 99
  · have hf := wp_t hc0 hf
    refine lv_tableIn (tgt := 108) hx hb dX1_tell_6 (by rw [hc0]; decide) (by rw [hc0]; decide) (by rw [hc0]; try rfl) (by decide) ?_
    refine lv_aload_n hx hb dX1_tell_108 rfl (lv_at hl 1 rfl) ?_
    refine lv_aload_n hx hb dX1_tell_109 rfl (lv_at hl 0 rfl) ?_
    refine lv_iload_n hx hb dX1_tell_110 rfl (lv_at hl 2 rfl) ?_
    refine lv_iconst (v := 1) hx hb dX1_tell_111 (by decide) ?_
    refine lv_iadd hx hb dX1_tell_112 ?_
    obtain ⟨x1, hcl, hf⟩ := wp_b hf
    refine k_Vi F hK hH hA hl.1 ⟨Nat.zero_le _, Nat.zero_le _⟩ [0, 1] [.int (v2 + 1)] [.ref (bd 0)] (ctX1_twoDigitsAt ad yl yt (v2 + 1) hcl) (cwV 1 hts gX1_tell_X1_twoDigitsAt rfl rfl rfl hdVX1_twoDigitsAt ⟨Nat.le_of_ble_eq_true rfl, Nat.le_of_ble_eq_true rfl⟩) dX1_tell_113 0 rfl rfl rfl rfl rfl (Nat.le_of_ble_eq_true rfl) rfl rfl (by decide) (fun H locs hH => ?_)
    have hH : Hs D A s.heap (wLt cI ad yl yt ++ wLd cI bd g) H locs := hH
    refine lv_aload_n hx hb dX1_tell_116 rfl (lv_at hl 0 rfl) ?_
    refine lv_iload_n hx hb dX1_tell_117 rfl (lv_at hl 2 rfl) ?_
    refine lv_iconst (v := 3) hx hb dX1_tell_118 (by decide) ?_
    refine lv_iadd hx hb dX1_tell_119 ?_
    obtain ⟨x2, hcl, hf⟩ := wp_b hf
    refine k_Vi F hK hH hA hl.1 ⟨Nat.zero_le _, Nat.zero_le _⟩ [0, 1] [.int (v2 + 3)] [.int x1, .ref (bd 0)] (ctX1_digitAt ad yl yt (v2 + 3) hcl) (cwV 1 hts gX1_tell_X1_digitAt rfl rfl rfl hdVX1_digitAt ⟨Nat.le_of_ble_eq_true rfl, Nat.le_of_ble_eq_true rfl⟩) dX1_tell_120 0 rfl rfl rfl rfl rfl (Nat.le_of_ble_eq_true rfl) rfl rfl (by decide) (fun H locs hH => ?_)
    have hH : Hs D A s.heap (wLt cI ad yl yt ++ wLd cI bd g) H locs := hH
    obtain ⟨x3, hcl, hf⟩ := wp_b hf
    refine k_Si F hK hH hA hl.1 ⟨Nat.zero_le _, Nat.zero_le _⟩ [2, 3, 4, 5, 6, 7, 8, 9] [.ref (bd 0), .int x1, .int x2] [] (ctX1_tellHeight bd g x1 x2 hcl) (va_cwS 3 hts gX1_tell_X1_tellHeight rfl rfl rfl hdSX1_tellHeight ⟨Nat.le_of_ble_eq_true rfl, Nat.le_of_ble_eq_true rfl⟩) dX1_tell_123 rfl rfl (Nat.le_of_ble_eq_true rfl) rfl rfl (by decide) (fun H locs hH => ?_)
    have hH : Hs D A s.heap (wLt cI ad yl yt ++ wLd cI bd x3.2) H locs := hH
    refine W.eq (g2 := F0 m 126 ls [.int x3.1]) rfl ?_
    obtain ⟨z4, hbo, hf⟩ := wp_b hf
    obtain ⟨hbe, hnb⟩ := bo_narrow hbo
    rw [hbe] at hf
    have hrs := wp_s hf
    subst hrs
    exact RET H locs ls 126 dX1_tell_126 hnb hH
  · have hf := wp_f hc0 hf
    by_cases hc1 : (yl (Int32.toNatClampNeg v2)) = 100
    · have hf := wp_t hc1 hf
      refine lv_tableIn (tgt := 203) hx hb dX1_tell_6 (by rw [hc1]; decide) (by rw [hc1]; decide) (by rw [hc1]; try rfl) (by decide) ?_
      refine lv_aload_n hx hb dX1_tell_203 rfl (lv_at hl 1 rfl) ?_
      refine lv_aload_n hx hb dX1_tell_204 rfl (lv_at hl 0 rfl) ?_
      refine lv_iload_n hx hb dX1_tell_205 rfl (lv_at hl 2 rfl) ?_
      refine lv_iconst (v := 1) hx hb dX1_tell_206 (by decide) ?_
      refine lv_iadd hx hb dX1_tell_207 ?_
      obtain ⟨x5, hcl, hf⟩ := wp_b hf
      refine k_Vi F hK hH hA hl.1 ⟨Nat.zero_le _, Nat.zero_le _⟩ [0, 1] [.int (v2 + 1)] [.ref (bd 0)] (ctX1_digitAt ad yl yt (v2 + 1) hcl) (cwV 1 hts gX1_tell_X1_digitAt rfl rfl rfl hdVX1_digitAt ⟨Nat.le_of_ble_eq_true rfl, Nat.le_of_ble_eq_true rfl⟩) dX1_tell_208 0 rfl rfl rfl rfl rfl (Nat.le_of_ble_eq_true rfl) rfl rfl (by decide) (fun H locs hH => ?_)
      have hH : Hs D A s.heap (wLt cI ad yl yt ++ wLd cI bd g) H locs := hH
      refine lv_aload_n hx hb dX1_tell_211 rfl (lv_at hl 0 rfl) ?_
      refine lv_iload_n hx hb dX1_tell_212 rfl (lv_at hl 2 rfl) ?_
      refine lv_iconst (v := 2) hx hb dX1_tell_213 (by decide) ?_
      refine lv_iadd hx hb dX1_tell_214 ?_
      obtain ⟨x6, hcl, hf⟩ := wp_b hf
      refine k_Vi F hK hH hA hl.1 ⟨Nat.zero_le _, Nat.zero_le _⟩ [0, 1] [.int (v2 + 2)] [.int x5, .ref (bd 0)] (ctX1_twoDigitsAt ad yl yt (v2 + 2) hcl) (cwV 1 hts gX1_tell_X1_twoDigitsAt rfl rfl rfl hdVX1_twoDigitsAt ⟨Nat.le_of_ble_eq_true rfl, Nat.le_of_ble_eq_true rfl⟩) dX1_tell_215 0 rfl rfl rfl rfl rfl (Nat.le_of_ble_eq_true rfl) rfl rfl (by decide) (fun H locs hH => ?_)
      have hH : Hs D A s.heap (wLt cI ad yl yt ++ wLd cI bd g) H locs := hH
      obtain ⟨x7, hcl, hf⟩ := wp_b hf
      refine k_Si F hK hH hA hl.1 ⟨Nat.zero_le _, Nat.zero_le _⟩ [2, 3, 4, 5, 6, 7, 8, 9] [.ref (bd 0), .int x5, .int x6] [] (ctX1_tellDriven bd g x5 x6 hcl) (va_cwS 3 hts gX1_tell_X1_tellDriven rfl rfl rfl hdSX1_tellDriven ⟨Nat.le_of_ble_eq_true rfl, Nat.le_of_ble_eq_true rfl⟩) dX1_tell_218 rfl rfl (Nat.le_of_ble_eq_true rfl) rfl rfl (by decide) (fun H locs hH => ?_)
      have hH : Hs D A s.heap (wLt cI ad yl yt ++ wLd cI bd x7.2) H locs := hH
      refine W.eq (g2 := F0 m 221 ls [.int x7.1]) rfl ?_
      obtain ⟨z8, hbo, hf⟩ := wp_b hf
      obtain ⟨hbe, hnb⟩ := bo_narrow hbo
      rw [hbe] at hf
      have hrs := wp_s hf
      subst hrs
      exact RET H locs ls 221 dX1_tell_221 hnb hH
    · have hf := wp_f hc1 hf
      by_cases hc2 : (yl (Int32.toNatClampNeg v2)) = 101
      · have hf := wp_t hc2 hf
        refine lv_tableIn (tgt := 179) hx hb dX1_tell_6 (by rw [hc2]; decide) (by rw [hc2]; decide) (by rw [hc2]; try rfl) (by decide) ?_
        refine lv_aload_n hx hb dX1_tell_179 rfl (lv_at hl 1 rfl) ?_
        refine lv_aload_n hx hb dX1_tell_180 rfl (lv_at hl 0 rfl) ?_
        refine lv_iload_n hx hb dX1_tell_181 rfl (lv_at hl 2 rfl) ?_
        refine lv_iconst (v := 1) hx hb dX1_tell_182 (by decide) ?_
        refine lv_iadd hx hb dX1_tell_183 ?_
        obtain ⟨x9, hcl, hf⟩ := wp_b hf
        refine k_Vi F hK hH hA hl.1 ⟨Nat.zero_le _, Nat.zero_le _⟩ [0, 1] [.int (v2 + 1)] [.ref (bd 0)] (ctX1_twoDigitsAt ad yl yt (v2 + 1) hcl) (cwV 1 hts gX1_tell_X1_twoDigitsAt rfl rfl rfl hdVX1_twoDigitsAt ⟨Nat.le_of_ble_eq_true rfl, Nat.le_of_ble_eq_true rfl⟩) dX1_tell_184 0 rfl rfl rfl rfl rfl (Nat.le_of_ble_eq_true rfl) rfl rfl (by decide) (fun H locs hH => ?_)
        have hH : Hs D A s.heap (wLt cI ad yl yt ++ wLd cI bd g) H locs := hH
        obtain ⟨x10, hcl, hf⟩ := wp_b hf
        refine k_Si F hK hH hA hl.1 ⟨Nat.zero_le _, Nat.zero_le _⟩ [2, 3, 4, 5, 6, 7, 8, 9] [.ref (bd 0), .int x9] [] (ctX1_tellEyes bd g x9 hcl) (va_cwS 2 hts gX1_tell_X1_tellEyes rfl rfl rfl hdSX1_tellEyes ⟨Nat.le_of_ble_eq_true rfl, Nat.le_of_ble_eq_true rfl⟩) dX1_tell_187 rfl rfl (Nat.le_of_ble_eq_true rfl) rfl rfl (by decide) (fun H locs hH => ?_)
        have hH : Hs D A s.heap (wLt cI ad yl yt ++ wLd cI bd x10.2) H locs := hH
        refine W.eq (g2 := F0 m 190 ls [.int x10.1]) rfl ?_
        obtain ⟨z11, hbo, hf⟩ := wp_b hf
        obtain ⟨hbe, hnb⟩ := bo_narrow hbo
        rw [hbe] at hf
        have hrs := wp_s hf
        subst hrs
        exact RET H locs ls 190 dX1_tell_190 hnb hH
      · have hf := wp_f hc2 hf
        by_cases hc3 : (yl (Int32.toNatClampNeg v2)) = 104
        · have hf := wp_t hc3 hf
          refine lv_tableIn (tgt := 222) hx hb dX1_tell_6 (by rw [hc3]; decide) (by rw [hc3]; decide) (by rw [hc3]; try rfl) (by decide) ?_
          refine lv_aload_n hx hb dX1_tell_222 rfl (lv_at hl 1 rfl) ?_
          refine lv_aload_n hx hb dX1_tell_223 rfl (lv_at hl 0 rfl) ?_
          refine lv_iload_n hx hb dX1_tell_224 rfl (lv_at hl 2 rfl) ?_
          refine lv_iconst (v := 1) hx hb dX1_tell_225 (by decide) ?_
          refine lv_iadd hx hb dX1_tell_226 ?_
          obtain ⟨x12, hcl, hf⟩ := wp_b hf
          refine k_Vi F hK hH hA hl.1 ⟨Nat.zero_le _, Nat.zero_le _⟩ [0, 1] [.int (v2 + 1)] [.ref (bd 0)] (ctX1_twoDigitsAt ad yl yt (v2 + 1) hcl) (cwV 1 hts gX1_tell_X1_twoDigitsAt rfl rfl rfl hdVX1_twoDigitsAt ⟨Nat.le_of_ble_eq_true rfl, Nat.le_of_ble_eq_true rfl⟩) dX1_tell_227 0 rfl rfl rfl rfl rfl (Nat.le_of_ble_eq_true rfl) rfl rfl (by decide) (fun H locs hH => ?_)
          have hH : Hs D A s.heap (wLt cI ad yl yt ++ wLd cI bd g) H locs := hH
          obtain ⟨x13, hcl, hf⟩ := wp_b hf
          refine k_Si F hK hH hA hl.1 ⟨Nat.zero_le _, Nat.zero_le _⟩ [2, 3, 4, 5, 6, 7, 8, 9] [.ref (bd 0), .int x12] [] (ctX1_tellHours bd g x12 hcl) (va_cwS 2 hts gX1_tell_X1_tellHours rfl rfl rfl hdSX1_tellHours ⟨Nat.le_of_ble_eq_true rfl, Nat.le_of_ble_eq_true rfl⟩) dX1_tell_230 rfl rfl (Nat.le_of_ble_eq_true rfl) rfl rfl (by decide) (fun H locs hH => ?_)
          have hH : Hs D A s.heap (wLt cI ad yl yt ++ wLd cI bd x13.2) H locs := hH
          refine W.eq (g2 := F0 m 233 ls [.int x13.1]) rfl ?_
          obtain ⟨z14, hbo, hf⟩ := wp_b hf
          obtain ⟨hbe, hnb⟩ := bo_narrow hbo
          rw [hbe] at hf
          have hrs := wp_s hf
          subst hrs
          exact RET H locs ls 233 dX1_tell_233 hnb hH
        · have hf := wp_f hc3 hf
          by_cases hc4 : (yl (Int32.toNatClampNeg v2)) = 116
          · have hf := wp_t hc4 hf
            refine lv_tableIn (tgt := 127) hx hb dX1_tell_6 (by rw [hc4]; decide) (by rw [hc4]; decide) (by rw [hc4]; try rfl) (by decide) ?_
            refine lv_aload_n hx hb dX1_tell_127 rfl (lv_at hl 1 rfl) ?_
            refine lv_aload_n hx hb dX1_tell_128 rfl (lv_at hl 0 rfl) ?_
            refine lv_iload_n hx hb dX1_tell_129 rfl (lv_at hl 2 rfl) ?_
            refine lv_iconst (v := 1) hx hb dX1_tell_130 (by decide) ?_
            refine lv_iadd hx hb dX1_tell_131 ?_
            obtain ⟨x15, hcl, hf⟩ := wp_b hf
            refine k_ViT F hK hT hH hA hl.1 ⟨Nat.zero_le _, Nat.zero_le _⟩ [0, 1] [.int (v2 + 1)] [.ref (bd 0)] (ctX1_kindAt aK aV ad yl yt (v2 + 1) hcl) (cwV 1 hts gX1_tell_X1_kindAt rfl rfl rfl hdVX1_kindAt ⟨Nat.le_of_ble_eq_true rfl, Nat.le_of_ble_eq_true rfl⟩) dX1_tell_132 (va_recv hK.1 hH.1 (ci := 1) (q0 := 0) rfl rfl) rfl rfl (Nat.le_of_ble_eq_true rfl) rfl rfl (by decide) (fun H locs hH => ?_)
            have hH : Hs D A s.heap (wLt cI ad yl yt ++ wLd cI bd g) H locs := hH
            refine lv_aload_n hx hb dX1_tell_135 rfl (lv_at hl 0 rfl) ?_
            refine lv_iload_n hx hb dX1_tell_136 rfl (lv_at hl 2 rfl) ?_
            refine lv_iconst (v := 2) hx hb dX1_tell_137 (by decide) ?_
            refine lv_iadd hx hb dX1_tell_138 ?_
            obtain ⟨x16, hcl, hf⟩ := wp_b hf
            refine k_Vi F hK hH hA hl.1 ⟨Nat.zero_le _, Nat.zero_le _⟩ [0, 1] [.int (v2 + 2)] [.int x15, .ref (bd 0)] (ctX1_digitAt ad yl yt (v2 + 2) hcl) (cwV 1 hts gX1_tell_X1_digitAt rfl rfl rfl hdVX1_digitAt ⟨Nat.le_of_ble_eq_true rfl, Nat.le_of_ble_eq_true rfl⟩) dX1_tell_139 0 rfl rfl rfl rfl rfl (Nat.le_of_ble_eq_true rfl) rfl rfl (by decide) (fun H locs hH => ?_)
            have hH : Hs D A s.heap (wLt cI ad yl yt ++ wLd cI bd g) H locs := hH
            refine lv_aload_n hx hb dX1_tell_142 rfl (lv_at hl 0 rfl) ?_
            refine lv_iload_n hx hb dX1_tell_143 rfl (lv_at hl 2 rfl) ?_
            refine lv_iconst (v := 3) hx hb dX1_tell_144 (by decide) ?_
            refine lv_iadd hx hb dX1_tell_145 ?_
            obtain ⟨x17, hcl, hf⟩ := wp_b hf
            refine k_Vi F hK hH hA hl.1 ⟨Nat.zero_le _, Nat.zero_le _⟩ [0, 1] [.int (v2 + 3)] [.int x16, .int x15, .ref (bd 0)] (ctX1_twoDigitsAt ad yl yt (v2 + 3) hcl) (cwV 1 hts gX1_tell_X1_twoDigitsAt rfl rfl rfl hdVX1_twoDigitsAt ⟨Nat.le_of_ble_eq_true rfl, Nat.le_of_ble_eq_true rfl⟩) dX1_tell_146 0 rfl rfl rfl rfl rfl (Nat.le_of_ble_eq_true rfl) rfl rfl (by decide) (fun H locs hH => ?_)
            have hH : Hs D A s.heap (wLt cI ad yl yt ++ wLd cI bd g) H locs := hH
            obtain ⟨x18, hcl, hf⟩ := wp_b hf
            refine k_Si F hK hH hA hl.1 ⟨Nat.zero_le _, Nat.zero_le _⟩ [2, 3, 4, 5, 6, 7, 8, 9] [.ref (bd 0), .int x15, .int x16, .int x17] [] (ctX1_tellThing bd g x15 x16 x17 hcl) (va_cwS 4 hts gX1_tell_X1_tellThing rfl rfl rfl hdSX1_tellThing ⟨Nat.le_of_ble_eq_true rfl, Nat.le_of_ble_eq_true rfl⟩) dX1_tell_149 rfl rfl (Nat.le_of_ble_eq_true rfl) rfl rfl (by decide) (fun H locs hH => ?_)
            have hH : Hs D A s.heap (wLt cI ad yl yt ++ wLd cI bd x18.2) H locs := hH
            refine W.eq (g2 := F0 m 152 ls [.int x18.1]) rfl ?_
            obtain ⟨z19, hbo, hf⟩ := wp_b hf
            obtain ⟨hbe, hnb⟩ := bo_narrow hbo
            rw [hbe] at hf
            have hrs := wp_s hf
            subst hrs
            exact RET H locs ls 152 dX1_tell_152 hnb hH
          · have hf := wp_f hc4 hf
            by_cases hc5 : (yl (Int32.toNatClampNeg v2)) = 118
            · have hf := wp_t hc5 hf
              refine lv_tableIn (tgt := 153) hx hb dX1_tell_6 (by rw [hc5]; decide) (by rw [hc5]; decide) (by rw [hc5]; try rfl) (by decide) ?_
              refine lv_aload_n hx hb dX1_tell_153 rfl (lv_at hl 1 rfl) ?_
              refine lv_aload_n hx hb dX1_tell_154 rfl (lv_at hl 0 rfl) ?_
              refine lv_iload_n hx hb dX1_tell_155 rfl (lv_at hl 2 rfl) ?_
              refine lv_iconst (v := 1) hx hb dX1_tell_156 (by decide) ?_
              refine lv_iadd hx hb dX1_tell_157 ?_
              obtain ⟨x20, hcl, hf⟩ := wp_b hf
              refine k_ViT F hK hT hH hA hl.1 ⟨Nat.zero_le _, Nat.zero_le _⟩ [0, 1] [.int (v2 + 1)] [.ref (bd 0)] (ctX1_kindAt aK aV ad yl yt (v2 + 1) hcl) (cwV 1 hts gX1_tell_X1_kindAt rfl rfl rfl hdVX1_kindAt ⟨Nat.le_of_ble_eq_true rfl, Nat.le_of_ble_eq_true rfl⟩) dX1_tell_158 (va_recv hK.1 hH.1 (ci := 1) (q0 := 0) rfl rfl) rfl rfl (Nat.le_of_ble_eq_true rfl) rfl rfl (by decide) (fun H locs hH => ?_)
              have hH : Hs D A s.heap (wLt cI ad yl yt ++ wLd cI bd g) H locs := hH
              refine lv_aload_n hx hb dX1_tell_161 rfl (lv_at hl 0 rfl) ?_
              refine lv_iload_n hx hb dX1_tell_162 rfl (lv_at hl 2 rfl) ?_
              refine lv_iconst (v := 2) hx hb dX1_tell_163 (by decide) ?_
              refine lv_iadd hx hb dX1_tell_164 ?_
              obtain ⟨x21, hcl, hf⟩ := wp_b hf
              refine k_Vi F hK hH hA hl.1 ⟨Nat.zero_le _, Nat.zero_le _⟩ [0, 1] [.int (v2 + 2)] [.int x20, .ref (bd 0)] (ctX1_digitAt ad yl yt (v2 + 2) hcl) (cwV 1 hts gX1_tell_X1_digitAt rfl rfl rfl hdVX1_digitAt ⟨Nat.le_of_ble_eq_true rfl, Nat.le_of_ble_eq_true rfl⟩) dX1_tell_165 0 rfl rfl rfl rfl rfl (Nat.le_of_ble_eq_true rfl) rfl rfl (by decide) (fun H locs hH => ?_)
              have hH : Hs D A s.heap (wLt cI ad yl yt ++ wLd cI bd g) H locs := hH
              refine lv_aload_n hx hb dX1_tell_168 rfl (lv_at hl 0 rfl) ?_
              refine lv_iload_n hx hb dX1_tell_169 rfl (lv_at hl 2 rfl) ?_
              refine lv_iconst (v := 3) hx hb dX1_tell_170 (by decide) ?_
              refine lv_iadd hx hb dX1_tell_171 ?_
              obtain ⟨x22, hcl, hf⟩ := wp_b hf
              refine k_Vi F hK hH hA hl.1 ⟨Nat.zero_le _, Nat.zero_le _⟩ [0, 1] [.int (v2 + 3)] [.int x21, .int x20, .ref (bd 0)] (ctX1_digitAt ad yl yt (v2 + 3) hcl) (cwV 1 hts gX1_tell_X1_digitAt rfl rfl rfl hdVX1_digitAt ⟨Nat.le_of_ble_eq_true rfl, Nat.le_of_ble_eq_true rfl⟩) dX1_tell_172 0 rfl rfl rfl rfl rfl (Nat.le_of_ble_eq_true rfl) rfl rfl (by decide) (fun H locs hH => ?_)
              have hH : Hs D A s.heap (wLt cI ad yl yt ++ wLd cI bd g) H locs := hH
              obtain ⟨x23, hcl, hf⟩ := wp_b hf
              refine k_Si F hK hH hA hl.1 ⟨Nat.zero_le _, Nat.zero_le _⟩ [2, 3, 4, 5, 6, 7, 8, 9] [.ref (bd 0), .int x20, .int x21, .int x22] [] (ctX1_tellCode bd g x20 x21 x22 hcl) (va_cwS 4 hts gX1_tell_X1_tellCode rfl rfl rfl hdSX1_tellCode ⟨Nat.le_of_ble_eq_true rfl, Nat.le_of_ble_eq_true rfl⟩) dX1_tell_175 rfl rfl (Nat.le_of_ble_eq_true rfl) rfl rfl (by decide) (fun H locs hH => ?_)
              have hH : Hs D A s.heap (wLt cI ad yl yt ++ wLd cI bd x23.2) H locs := hH
              refine W.eq (g2 := F0 m 178 ls [.int x23.1]) rfl ?_
              obtain ⟨z24, hbo, hf⟩ := wp_b hf
              obtain ⟨hbe, hnb⟩ := bo_narrow hbo
              rw [hbe] at hf
              have hrs := wp_s hf
              subst hrs
              exact RET H locs ls 178 dX1_tell_178 hnb hH
            · have hf := wp_f hc5 hf
              by_cases hc6 : (yl (Int32.toNatClampNeg v2)) = 120
              · have hf := wp_t hc6 hf
                refine lv_tableIn (tgt := 191) hx hb dX1_tell_6 (by rw [hc6]; decide) (by rw [hc6]; decide) (by rw [hc6]; try rfl) (by decide) ?_
                refine lv_aload_n hx hb dX1_tell_191 rfl (lv_at hl 1 rfl) ?_
                refine lv_aload_n hx hb dX1_tell_192 rfl (lv_at hl 0 rfl) ?_
                refine lv_iload_n hx hb dX1_tell_193 rfl (lv_at hl 2 rfl) ?_
                refine lv_iconst (v := 1) hx hb dX1_tell_194 (by decide) ?_
                refine lv_iadd hx hb dX1_tell_195 ?_
                obtain ⟨x25, hcl, hf⟩ := wp_b hf
                refine k_Vi F hK hH hA hl.1 ⟨Nat.zero_le _, Nat.zero_le _⟩ [0, 1] [.int (v2 + 1)] [.ref (bd 0)] (ctX1_digitAt ad yl yt (v2 + 1) hcl) (cwV 1 hts gX1_tell_X1_digitAt rfl rfl rfl hdVX1_digitAt ⟨Nat.le_of_ble_eq_true rfl, Nat.le_of_ble_eq_true rfl⟩) dX1_tell_196 0 rfl rfl rfl rfl rfl (Nat.le_of_ble_eq_true rfl) rfl rfl (by decide) (fun H locs hH => ?_)
                have hH : Hs D A s.heap (wLt cI ad yl yt ++ wLd cI bd g) H locs := hH
                obtain ⟨x26, hcl, hf⟩ := wp_b hf
                refine k_Si F hK hH hA hl.1 ⟨Nat.zero_le _, Nat.zero_le _⟩ [2, 3, 4, 5, 6, 7, 8, 9] [.ref (bd 0), .int x25] [] (ctX1_tellHidden bd g x25 hcl) (va_cwS 2 hts gX1_tell_X1_tellHidden rfl rfl rfl hdSX1_tellHidden ⟨Nat.le_of_ble_eq_true rfl, Nat.le_of_ble_eq_true rfl⟩) dX1_tell_199 rfl rfl (Nat.le_of_ble_eq_true rfl) rfl rfl (by decide) (fun H locs hH => ?_)
                have hH : Hs D A s.heap (wLt cI ad yl yt ++ wLd cI bd x26.2) H locs := hH
                refine W.eq (g2 := F0 m 202 ls [.int x26.1]) rfl ?_
                obtain ⟨z27, hbo, hf⟩ := wp_b hf
                obtain ⟨hbe, hnb⟩ := bo_narrow hbo
                rw [hbe] at hf
                have hrs := wp_s hf
                subst hrs
                exact RET H locs ls 202 dX1_tell_202 hnb hH
              · have hf := wp_f hc6 hf
                have hs0 := sw_ne hc0 (show (99 : Int32).toInt = 99 from rfl)
                have hs1 := sw_ne hc1 (show (100 : Int32).toInt = 100 from rfl)
                have hs2 := sw_ne hc2 (show (101 : Int32).toInt = 101 from rfl)
                have hs3 := sw_ne hc3 (show (104 : Int32).toInt = 104 from rfl)
                have hs4 := sw_ne hc4 (show (116 : Int32).toInt = 116 from rfl)
                have hs5 := sw_ne hc5 (show (118 : Int32).toInt = 118 from rfl)
                have hs6 := sw_ne hc6 (show (120 : Int32).toInt = 120 from rfl)
                have JD : W p l e rmX1_tell s m args below meth c H locs 0 0 Q (F0 m 234 ls []) := by
                  refine lv_iconst (v := 0) hx hb dX1_tell_234 (by decide) ?_
                  have hrs := wp_s hf
                  subst hrs
                  exact RET H locs ls 235 dX1_tell_235 (by show narrow .boolean (.int 0) = .int 0; rfl) hH
                refine sw_def (x := (yl (Int32.toNatClampNeg v2))) hx hb dX1_tell_6 (by decide) (fun h1 h2 => ?_) JD
                have hk : Int32.toInt (yl (Int32.toNatClampNeg v2)) = 102 ∨ Int32.toInt (yl (Int32.toNatClampNeg v2)) = 103 ∨ Int32.toInt (yl (Int32.toNatClampNeg v2)) = 105 ∨ Int32.toInt (yl (Int32.toNatClampNeg v2)) = 106 ∨ Int32.toInt (yl (Int32.toNatClampNeg v2)) = 107 ∨ Int32.toInt (yl (Int32.toNatClampNeg v2)) = 108 ∨ Int32.toInt (yl (Int32.toNatClampNeg v2)) = 109 ∨ Int32.toInt (yl (Int32.toNatClampNeg v2)) = 110 ∨ Int32.toInt (yl (Int32.toNatClampNeg v2)) = 111 ∨ Int32.toInt (yl (Int32.toNatClampNeg v2)) = 112 ∨ Int32.toInt (yl (Int32.toNatClampNeg v2)) = 113 ∨ Int32.toInt (yl (Int32.toNatClampNeg v2)) = 114 ∨ Int32.toInt (yl (Int32.toNatClampNeg v2)) = 115 ∨ Int32.toInt (yl (Int32.toNatClampNeg v2)) = 117 ∨ Int32.toInt (yl (Int32.toNatClampNeg v2)) = 119 := by omega
                rcases hk with h | h | h | h | h | h | h | h | h | h | h | h | h | h | h <;> rw [h] <;> rfl

def bX1_firstWrongFor_2 (yl : (Nat → Int32)) (yt : Int32) : (Int32 × LandT) → Option ((Int32 × LandT) ⊕ ((Int32 × LandT) ⊕ (LandT))) := fun ((t1, t2) : Int32 × LandT) =>
  if yt ≤ t1 then
    some (.inr (.inr t2))
  else
    Option.bind (if t1 = 0 then
        some 1
      else
        if ob (t1 - 1) 96 then none else
        if (yl (Int32.toNatClampNeg (t1 - 1))) = 59 then
          some 1
        else
          some 0) fun (t4 : Int32) =>
    if t4 = 0 then
      some (.inl (t1 + 1, t2))
    else
      Option.bind (fX1_tell t1 yl yt t2) fun x5 =>
      if x5.1 = 0 then
        some (.inr (.inl (t1, x5.2)))
      else
        some (.inl (t1 + 1, x5.2))

def fX1_firstWrongFor (yl : (Nat → Int32)) (yt : Int32) (g : LandT) : Option (Int32 × LandT) :=
  Option.bind (lp (bX1_firstWrongFor_2 yl yt) fu (0, g)) (el (fun v => some v) (fun (t3 : LandT) =>
    some ((-1), t3)))

def rmX1_firstWrongFor : Room := { frames := 6, cells := 0, slots := 0, locals := 134 }
theorem mbX1_firstWrongFor_f15 : Cond.fieldLink RX1 15 (TX1 1).1 (TX1 1).2.1 (TX1 1).2.2.1 ∈ wsX1_firstWrongFor := by decide +kernel
theorem inX1_firstWrongFor_X1 : ∀ w ∈ wsX10, w ∈ wsX1_firstWrongFor := by decide +kernel
theorem mbX1_firstWrongFor_f9 : Cond.fieldLink RX1 9 (TX1 0).1 (TX1 0).2.1 (TX1 0).2.2.1 ∈ wsX1_firstWrongFor := by decide +kernel
theorem hdVX1_firstWrongFor : yX1_firstWrongFor.cls = RX1 ∧ yX1_firstWrongFor.cls ≠ "java/lang/invoke/MethodHandle" ∧ yX1_firstWrongFor.cls ≠ "java/lang/invoke/VarHandle" ∧ (parseMethodDescriptor yX1_firstWrongFor.desc).map (fun d => d.parameters.length) = some 1 := by decide +kernel
set_option maxHeartbeats 4000000 in
set_option maxRecDepth 100000 in
theorem ctX1_firstWrongFor {l : Launch} {D : va_G} {cI cJ cQ : ClassId} (aK aV : Nat → Nat) (ad : Nat → Nat) (bd : Nat → Nat) (yl : (Nat → Int32)) (yt : Int32) (g : LandT)  {res : Int32 × LandT} (h : fX1_firstWrongFor yl yt g = some res) : CtIT l D cI cJ cQ aK aV yX1_firstWrongFor wsX1_firstWrongFor rmX1_firstWrongFor [.ref (ad 0), .ref (bd 0)] (wLt cI ad yl yt ++ wLd cI bd g) res.1 (wLt cI ad yl yt ++ wLd cI bd res.2) := by
  refine ctIT_of .int (cc := cX1_firstWrongFor) (maxL := 4) (by decide) rfl (Nat.le_of_ble_eq_true rfl) ?_
  intro p e s m args below meth c A Q ls F hK hT hA RET hH hl
  obtain ⟨hx, hb, hml, hown, hts⟩ := id F
  have hl : lv_has ls 4 [(0, .ref (ad 0)), (1, .ref (bd 0))] := hl
  have hf : wpO (fX1_firstWrongFor yl yt g) (fun v => v = res) := ⟨_, h, rfl⟩
  obtain ⟨H, eH⟩ : ∃ H, H = s.heap := ⟨_, rfl⟩
  obtain ⟨locs, eL⟩ : ∃ locs : List Loc, locs = [] := ⟨_, rfl⟩
  have hH : Hs D A s.heap (wLt cI ad yl yt ++ wLd cI bd g) H locs := by rw [eH, eL]; exact hH
  rw [← eL]
  suffices hgo : W p l e rmX1_firstWrongFor s m args below meth c H locs 0 0 Q (F0 m 0 ls []) by rw [eH] at hgo; exact hgo
  clear eH eL
  refine lv_iconst (v := 0) hx hb dX1_firstWrongFor_0 (by decide) ?_
  refine lv_istore_n (lv' := [(2, .int 0), (0, .ref (ad 0)), (1, .ref (bd 0))]) hx hb dX1_firstWrongFor_1 rfl hl (by decide) rfl (fun ls hl => ?_)
  have LP : ∀ (Φ : ((Int32 × LandT) ⊕ (LandT)) → Prop), (∀ v : Int32 × LandT, Φ (.inl v) → v = res) → (∀ (t3 : LandT) (H : Heap) (locs : List Loc) (ls : Array Slot), Φ (.inr t3) → Hs D A s.heap (wLt cI ad yl yt ++ wLd cI bd t3) H locs → lv_has ls 4 [] → W p l e rmX1_firstWrongFor s m args below meth c H locs 0 0 Q (F0 m 54 ls [])) → ∀ (n : Nat) (t1 : Int32) (t2 : LandT) (H : Heap) (locs : List Loc) (ls : Array Slot), wpO (lp (bX1_firstWrongFor_2 yl yt) n (t1, t2)) Φ → Hs D A s.heap (wLt cI ad yl yt ++ wLd cI bd t2) H locs → lv_has ls 4 [(0, .ref (ad 0)), (1, .ref (bd 0)), (2, .int t1)] → W p l e rmX1_firstWrongFor s m args below meth c H locs 0 0 Q (F0 m 2 ls []) := by
    intro Φ hret EX n
    induction n with
    | zero =>
      intro t1 t2 H locs ls hf hH hl
      exact (wp_l0 hf).elim
    | succ n ih =>
      intro t1 t2 H locs ls hf hH hl
      have hf := wp_l hf
      refine lv_iload_n hx hb dX1_firstWrongFor_2 rfl (lv_at hl 2 rfl) ?_
      refine lv_aload_n hx hb dX1_firstWrongFor_3 rfl (lv_at hl 0 rfl) ?_
      refine k_get (v := .int yt) F hK hH 0 inX1_firstWrongFor_X1 1 mbX1_firstWrongFor_f15 dX1_firstWrongFor_4 rfl rfl (by decide) rfl ?_
      refine lv_icmp_ge (tgt := 54) hx hb dX1_firstWrongFor_7 (by decide) (fun hc => ?_) (fun hc => ?_)
      · have hf := wp_t hc hf
        have hw := wp_out hf
        exact EX _ _ _ _ hw hH (lv_sub hl [] rfl)
      · have hf := wp_f hc hf
        refine lv_iload_n hx hb dX1_firstWrongFor_10 rfl (lv_at hl 2 rfl) ?_
        refine join_ (α := Int32) (fun Φ => ∀ (t4 : Int32) (H : Heap) (locs : List Loc) (ls : Array Slot), Φ t4 → Hs D A s.heap (wLt cI ad yl yt ++ wLd cI bd t2) H locs → lv_has ls 4 [(0, .ref (ad 0)), (1, .ref (bd 0)), (2, .int t1)] → W p l e rmX1_firstWrongFor s m args below meth c H locs 0 0 Q (F0 m 32 ls [.int t4])) (wp_bb hf) ?_ ?_
        · intro t4 H locs ls hf hH hl
          refine lv_istore_n (lv' := [(3, .int t4), (0, .ref (ad 0)), (1, .ref (bd 0)), (2, .int t1)]) hx hb dX1_firstWrongFor_32 rfl hl (by decide) rfl (fun ls hl => ?_)
          refine lv_iload_n hx hb dX1_firstWrongFor_33 rfl (lv_at hl 0 rfl) ?_
          refine lv_if_eq (tgt := 48) hx hb dX1_firstWrongFor_34 (by decide) (fun hc => ?_) (fun hc => ?_)
          · have hf := wp_t hc hf
            refine lv_iinc (v := t1 + 1) (lv' := [(2, .int (t1 + 1)), (3, .int t4), (0, .ref (ad 0)), (1, .ref (bd 0))]) hx hb dX1_firstWrongFor_48 hl (k := 3) rfl rfl (by decide) rfl (fun ls hl => ?_)
            refine lv_goto (tgt := 2) hx hb dX1_firstWrongFor_51 (by decide) ?_
            have hw := wp_in hf
            exact ih _ _ _ _ _ hw hH (lv_sub hl [2, 3, 0] rfl)
          · have hf := wp_f hc hf
            refine lv_aload_n hx hb dX1_firstWrongFor_37 rfl (lv_at hl 1 rfl) ?_
            refine lv_aload_n hx hb dX1_firstWrongFor_38 rfl (lv_at hl 2 rfl) ?_
            refine lv_iload_n hx hb dX1_firstWrongFor_39 rfl (lv_at hl 3 rfl) ?_
            obtain ⟨x5, hcl, hf⟩ := wp_b hf
            refine k_ViT F hK hT hH hA hl.1 ⟨Nat.zero_le _, Nat.zero_le _⟩ [0, 1, 2, 3, 4, 5, 6, 7, 8, 9] [.ref (bd 0), .int t1] [] (ctX1_tell aK aV ad bd yl yt t2 t1 hcl) (cwV 2 hts gX1_firstWrongFor_X1_tell rfl rfl rfl hdVX1_tell ⟨Nat.le_of_ble_eq_true rfl, Nat.le_of_ble_eq_true rfl⟩) dX1_firstWrongFor_40 (va_recv hK.1 hH.1 (ci := 1) (q0 := 0) rfl rfl) rfl rfl (Nat.le_of_ble_eq_true rfl) rfl rfl (by decide) (fun H locs hH => ?_)
            have hH : Hs D A s.heap (wLt cI ad yl yt ++ wLd cI bd x5.2) H locs := hH
            refine W.eq (g2 := F0 m 43 ls [.int x5.1]) rfl ?_
            refine lv_if_ne (tgt := 48) hx hb dX1_firstWrongFor_43 (by decide) (fun hc => ?_) (fun hc => ?_)
            · have hf := wp_f hc hf
              refine lv_iinc (v := t1 + 1) (lv' := [(2, .int (t1 + 1)), (3, .int t4), (0, .ref (ad 0)), (1, .ref (bd 0))]) hx hb dX1_firstWrongFor_48 hl (k := 3) rfl rfl (by decide) rfl (fun ls hl => ?_)
              refine lv_goto (tgt := 2) hx hb dX1_firstWrongFor_51 (by decide) ?_
              have hw := wp_in hf
              exact ih _ _ _ _ _ hw hH (lv_sub hl [2, 3, 0] rfl)
            · have hf := wp_t hc hf
              refine lv_iload_n hx hb dX1_firstWrongFor_46 rfl (lv_at hl 3 rfl) ?_
              have hrs := hret _ (wp_out hf)
              subst hrs
              exact RET H locs ls 47 dX1_firstWrongFor_47 rfl hH
        · intro Φ JJ hf
          refine lv_if_eq (tgt := 27) hx hb dX1_firstWrongFor_11 (by decide) (fun hc => ?_) (fun hc => ?_)
          · have hf := wp_t hc hf
            refine lv_iconst (v := 1) hx hb dX1_firstWrongFor_27 (by decide) ?_
            refine lv_goto (tgt := 32) hx hb dX1_firstWrongFor_28 (by decide) ?_
            have hw := wp_s hf
            exact JJ _ _ _ _ hw hH (lv_sub hl [0, 1, 2] rfl)
          · have hf := wp_f hc hf
            refine lv_aload_n hx hb dX1_firstWrongFor_14 rfl (lv_at hl 0 rfl) ?_
            refine k_get (v := .ref (ad 1)) F hK hH 0 inX1_firstWrongFor_X1 0 mbX1_firstWrongFor_f9 dX1_firstWrongFor_15 rfl rfl (by decide) rfl ?_
            refine lv_iload_n hx hb dX1_firstWrongFor_18 rfl (lv_at hl 2 rfl) ?_
            refine lv_iconst (v := 1) hx hb dX1_firstWrongFor_19 (by decide) ?_
            refine lv_isub hx hb dX1_firstWrongFor_20 ?_
            obtain ⟨hi, hf⟩ := wp_n hf
            refine k_iald (f := yl) (n := 96) F hK hH 1 dX1_firstWrongFor_21 hi rfl ?_
            refine lv_bipush (v := 59) hx hb dX1_firstWrongFor_22 (by decide) ?_
            refine lv_icmp_ne (tgt := 31) hx hb dX1_firstWrongFor_24 (by decide) (fun hc => ?_) (fun hc => ?_)
            · have hf := wp_f hc hf
              refine lv_iconst (v := 0) hx hb dX1_firstWrongFor_31 (by decide) ?_
              have hw := wp_s hf
              exact JJ _ _ _ _ hw hH (lv_sub hl [0, 1, 2] rfl)
            · have hf := wp_t hc hf
              refine lv_iconst (v := 1) hx hb dX1_firstWrongFor_27 (by decide) ?_
              refine lv_goto (tgt := 32) hx hb dX1_firstWrongFor_28 (by decide) ?_
              have hw := wp_s hf
              exact JJ _ _ _ _ hw hH (lv_sub hl [0, 1, 2] rfl)
  refine LP _ (fun v hv => by have h9 := wp_s hv; exact h9) (fun t3 H locs ls hf hH hl => ?_) fu _ _ _ _ _ (wp_bb hf) hH (lv_sub hl [1, 2, 0] rfl)
  refine lv_iconst (v := (-1)) hx hb dX1_firstWrongFor_54 (by decide) ?_
  have hrs := wp_s hf
  subst hrs
  exact RET H locs ls 55 dX1_firstWrongFor_55 rfl hH

