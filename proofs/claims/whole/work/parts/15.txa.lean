def fX1_shapeBehind (v0 : Int32) : Option (Nat) :=
  if v0 = 99 then
    some 0
  else
    if v0 = 100 then
      some 0
    else
      if v0 = 101 then
        some 3
      else
        if v0 = 104 then
          some 3
        else
          if v0 = 116 then
            some 1
          else
            if v0 = 118 then
              some 2
            else
              if v0 = 120 then
                some 4
              else
                some 5

def rmX1_shapeBehind : Room := { frames := 0, cells := 0, slots := 0, locals := 0 }
theorem hdSX1_shapeBehind : yX1_shapeBehind.cls ≠ "java/lang/invoke/MethodHandle" ∧ yX1_shapeBehind.cls ≠ "java/lang/invoke/VarHandle" ∧ (parseMethodDescriptor yX1_shapeBehind.desc).map (fun d => d.parameters.length) = some 1 := by decide +kernel
set_option maxHeartbeats 4000000 in
set_option maxRecDepth 100000 in
theorem ctX1_shapeBehind {l : Launch} {D : va_G} {cI cJ cQ : ClassId} (aK aV : Nat → Nat)   (v0 : Int32) {res : Nat} (h : fX1_shapeBehind v0 = some res) : CtRT l D cI cJ cQ aK aV yX1_shapeBehind wsX1_shapeBehind rmX1_shapeBehind [.int v0] ([]) (aK res) ([]) := by
  refine ctRT_of (.object "java/lang/String") (Or.inl ⟨_, rfl⟩) (cc := cX1_shapeBehind) (maxL := 1) (by decide) rfl (Nat.le_of_ble_eq_true rfl) ?_
  intro p e s m args below meth c A Q ls F hK hT hA RET hH hl
  obtain ⟨hx, hb, hml, hown, hts⟩ := id F
  have hl : lv_has ls 1 [(0, .int v0)] := hl
  have hf : wpO (fX1_shapeBehind v0) (fun v => v = res) := ⟨_, h, rfl⟩
  obtain ⟨H, eH⟩ : ∃ H, H = s.heap := ⟨_, rfl⟩
  obtain ⟨locs, eL⟩ : ∃ locs : List Loc, locs = [] := ⟨_, rfl⟩
  have hH : Hs D A s.heap ([]) H locs := by rw [eH, eL]; exact hH
  rw [← eL]
  suffices hgo : W p l e rmX1_shapeBehind s m args below meth c H locs 0 0 Q (F0 m 0 ls []) by rw [eH] at hgo; exact hgo
  clear eH eL
  refine lv_iload_n hx hb dX1_shapeBehind_0 rfl (lv_at hl 0 rfl) ?_
  by_cases hc0 : v0 = 99
  · have hf := wp_t hc0 hf
    refine lv_tableIn (tgt := 104) hx hb dX1_shapeBehind_1 (by rw [hc0]; decide) (by rw [hc0]; decide) (by rw [hc0]; try rfl) (by decide) ?_
    refine va_ldcS hx hb hown (show vk_R RX1 59 "000;" (aK 0) s from hT.2.1 0 (by decide)) dX1_shapeBehind_104 ?_
    have hrs := wp_s hf
    subst hrs
    exact RET H locs ls 106 dX1_shapeBehind_106 hH
  · have hf := wp_f hc0 hf
    by_cases hc1 : v0 = 100
    · have hf := wp_t hc1 hf
      refine lv_tableIn (tgt := 104) hx hb dX1_shapeBehind_1 (by rw [hc1]; decide) (by rw [hc1]; decide) (by rw [hc1]; try rfl) (by decide) ?_
      refine va_ldcS hx hb hown (show vk_R RX1 59 "000;" (aK 0) s from hT.2.1 0 (by decide)) dX1_shapeBehind_104 ?_
      have hrs := wp_s hf
      subst hrs
      exact RET H locs ls 106 dX1_shapeBehind_106 hH
    · have hf := wp_f hc1 hf
      by_cases hc2 : v0 = 101
      · have hf := wp_t hc2 hf
        refine lv_tableIn (tgt := 113) hx hb dX1_shapeBehind_1 (by rw [hc2]; decide) (by rw [hc2]; decide) (by rw [hc2]; try rfl) (by decide) ?_
        refine va_ldcS hx hb hown (show vk_R RX1 65 "00;" (aK 3) s from hT.2.1 3 (by decide)) dX1_shapeBehind_113 ?_
        have hrs := wp_s hf
        subst hrs
        exact RET H locs ls 115 dX1_shapeBehind_115 hH
      · have hf := wp_f hc2 hf
        by_cases hc3 : v0 = 104
        · have hf := wp_t hc3 hf
          refine lv_tableIn (tgt := 113) hx hb dX1_shapeBehind_1 (by rw [hc3]; decide) (by rw [hc3]; decide) (by rw [hc3]; try rfl) (by decide) ?_
          refine va_ldcS hx hb hown (show vk_R RX1 65 "00;" (aK 3) s from hT.2.1 3 (by decide)) dX1_shapeBehind_113 ?_
          have hrs := wp_s hf
          subst hrs
          exact RET H locs ls 115 dX1_shapeBehind_115 hH
        · have hf := wp_f hc3 hf
          by_cases hc4 : v0 = 116
          · have hf := wp_t hc4 hf
            refine lv_tableIn (tgt := 107) hx hb dX1_shapeBehind_1 (by rw [hc4]; decide) (by rw [hc4]; decide) (by rw [hc4]; try rfl) (by decide) ?_
            refine va_ldcS hx hb hown (show vk_R RX1 61 "k000;" (aK 1) s from hT.2.1 1 (by decide)) dX1_shapeBehind_107 ?_
            have hrs := wp_s hf
            subst hrs
            exact RET H locs ls 109 dX1_shapeBehind_109 hH
          · have hf := wp_f hc4 hf
            by_cases hc5 : v0 = 118
            · have hf := wp_t hc5 hf
              refine lv_tableIn (tgt := 110) hx hb dX1_shapeBehind_1 (by rw [hc5]; decide) (by rw [hc5]; decide) (by rw [hc5]; try rfl) (by decide) ?_
              refine va_ldcS hx hb hown (show vk_R RX1 63 "k00;" (aK 2) s from hT.2.1 2 (by decide)) dX1_shapeBehind_110 ?_
              have hrs := wp_s hf
              subst hrs
              exact RET H locs ls 112 dX1_shapeBehind_112 hH
            · have hf := wp_f hc5 hf
              by_cases hc6 : v0 = 120
              · have hf := wp_t hc6 hf
                refine lv_tableIn (tgt := 116) hx hb dX1_shapeBehind_1 (by rw [hc6]; decide) (by rw [hc6]; decide) (by rw [hc6]; try rfl) (by decide) ?_
                refine va_ldcS hx hb hown (show vk_R RX1 67 "0;" (aK 4) s from hT.2.1 4 (by decide)) dX1_shapeBehind_116 ?_
                have hrs := wp_s hf
                subst hrs
                exact RET H locs ls 118 dX1_shapeBehind_118 hH
              · have hf := wp_f hc6 hf
                have hs0 := sw_ne hc0 (show (99 : Int32).toInt = 99 from rfl)
                have hs1 := sw_ne hc1 (show (100 : Int32).toInt = 100 from rfl)
                have hs2 := sw_ne hc2 (show (101 : Int32).toInt = 101 from rfl)
                have hs3 := sw_ne hc3 (show (104 : Int32).toInt = 104 from rfl)
                have hs4 := sw_ne hc4 (show (116 : Int32).toInt = 116 from rfl)
                have hs5 := sw_ne hc5 (show (118 : Int32).toInt = 118 from rfl)
                have hs6 := sw_ne hc6 (show (120 : Int32).toInt = 120 from rfl)
                have JD : W p l e rmX1_shapeBehind s m args below meth c H locs 0 0 Q (F0 m 119 ls []) := by
                  refine va_ldcS hx hb hown (show vk_R RX1 69 "" (aK 5) s from hT.2.1 5 (by decide)) dX1_shapeBehind_119 ?_
                  have hrs := wp_s hf
                  subst hrs
                  exact RET H locs ls 121 dX1_shapeBehind_121 hH
                refine sw_def (x := v0) hx hb dX1_shapeBehind_1 (by decide) (fun h1 h2 => ?_) JD
                have hk : Int32.toInt v0 = 102 ∨ Int32.toInt v0 = 103 ∨ Int32.toInt v0 = 105 ∨ Int32.toInt v0 = 106 ∨ Int32.toInt v0 = 107 ∨ Int32.toInt v0 = 108 ∨ Int32.toInt v0 = 109 ∨ Int32.toInt v0 = 110 ∨ Int32.toInt v0 = 111 ∨ Int32.toInt v0 = 112 ∨ Int32.toInt v0 = 113 ∨ Int32.toInt v0 = 114 ∨ Int32.toInt v0 = 115 ∨ Int32.toInt v0 = 117 ∨ Int32.toInt v0 = 119 := by omega
                rcases hk with h | h | h | h | h | h | h | h | h | h | h | h | h | h | h <;> rw [h] <;> rfl

def fJ0_isEmpty_aae02 (si : Nat) : Option (Int32) :=
  if (nI (lenL.getD si 0)) = 0 then
    some 1
  else
    some 0

def rmJ0_isEmpty_aae02 : Room := { frames := 0, cells := 0, slots := 0, locals := 0 }
theorem mbJ0_isEmpty_aae02_f9 : Cond.fieldLink RJ0 9 "java/lang/String" "value" "[B" ∈ wsJ0_isEmpty_aae02 := by decide +kernel
theorem hdVJ0_isEmpty_aae02 : yJ0_isEmpty_aae02.cls = RJ0 ∧ yJ0_isEmpty_aae02.cls ≠ "java/lang/invoke/MethodHandle" ∧ yJ0_isEmpty_aae02.cls ≠ "java/lang/invoke/VarHandle" ∧ (parseMethodDescriptor yJ0_isEmpty_aae02.desc).map (fun d => d.parameters.length) = some 0 := by decide +kernel
set_option maxHeartbeats 4000000 in
set_option maxRecDepth 100000 in
theorem ctJ0_isEmpty_aae02 {l : Launch} {D : va_G} {cI cJ cQ : ClassId} (aK aV : Nat → Nat)   (si : Nat) (hsi : si < 7) {res : Int32} (h : fJ0_isEmpty_aae02 si = some res) : CtIT l D cI cJ cQ aK aV yJ0_isEmpty_aae02 wsJ0_isEmpty_aae02 rmJ0_isEmpty_aae02 [.ref (aK si)] ([]) res ([]) := by
  refine ctIT_of .boolean (cc := cJ0_isEmpty_aae02) (maxL := 1) (by decide) rfl (Nat.le_of_ble_eq_true rfl) ?_
  intro p e s m args below meth c A Q ls F hK hT hA RET hH hl
  obtain ⟨hx, hb, hml, hown, hts⟩ := id F
  have hl : lv_has ls 1 [(0, .ref (aK si))] := hl
  have hf : wpO (fJ0_isEmpty_aae02 si) (fun v => v = res) := ⟨_, h, rfl⟩
  obtain ⟨H, eH⟩ : ∃ H, H = s.heap := ⟨_, rfl⟩
  obtain ⟨locs, eL⟩ : ∃ locs : List Loc, locs = [] := ⟨_, rfl⟩
  have hH : Hs D A s.heap ([]) H locs := by rw [eH, eL]; exact hH
  rw [← eL]
  suffices hgo : W p l e rmJ0_isEmpty_aae02 s m args below meth c H locs 0 0 Q (F0 m 0 ls []) by rw [eH] at hgo; exact hgo
  clear eH eL
  refine lv_aload_n hx hb dJ0_isEmpty_aae02_0 rfl (lv_at hl 0 rfl) ?_
  refine vk_getf hx hb (hT.1.1 si hsi).2.2.1 hH.2.2 hown (hts _ mbJ0_isEmpty_aae02_f9) (fun _ h => h) dJ0_isEmpty_aae02_1 ?_
  refine va_tlen (v := nI (lenL.getD si 0)) hx hb (hT.1.1 si hsi).2.2.2 hH.2.2 rfl dJ0_isEmpty_aae02_4 ?_
  refine lv_if_ne (tgt := 12) hx hb dJ0_isEmpty_aae02_5 (by decide) (fun hc => ?_) (fun hc => ?_)
  · have hf := wp_f hc hf
    refine lv_iconst (v := 0) hx hb dJ0_isEmpty_aae02_12 (by decide) ?_
    have hrs := wp_s hf
    subst hrs
    exact RET H locs ls 13 dJ0_isEmpty_aae02_13 (by show narrow .boolean (.int 0) = .int 0; rfl) hH
  · have hf := wp_t hc hf
    refine lv_iconst (v := 1) hx hb dJ0_isEmpty_aae02_8 (by decide) ?_
    refine lv_goto (tgt := 13) hx hb dJ0_isEmpty_aae02_9 (by decide) ?_
    have hrs := wp_s hf
    subst hrs
    exact RET H locs ls 13 dJ0_isEmpty_aae02_13 (by show narrow .boolean (.int 1) = .int 1; rfl) hH

def fJ0_coder_7d493 (si : Nat) : Option (Int32) :=
  if (1 : Int32) = 0 then
    some 1
  else
    some 0

def rmJ0_coder_7d493 : Room := { frames := 0, cells := 0, slots := 0, locals := 0 }
theorem mbJ0_coder_7d493_f38 : Cond.fieldLink RJ0 38 "java/lang/String" "COMPACT_STRINGS" "Z" ∈ wsJ0_coder_7d493 := by decide +kernel
theorem mbJ0_coder_7d493_f15 : Cond.fieldLink RJ0 15 "java/lang/String" "coder" "B" ∈ wsJ0_coder_7d493 := by decide +kernel
theorem hdVJ0_coder_7d493 : yJ0_coder_7d493.cls = RJ0 ∧ yJ0_coder_7d493.cls ≠ "java/lang/invoke/MethodHandle" ∧ yJ0_coder_7d493.cls ≠ "java/lang/invoke/VarHandle" ∧ (parseMethodDescriptor yJ0_coder_7d493.desc).map (fun d => d.parameters.length) = some 0 := by decide +kernel
set_option maxHeartbeats 4000000 in
set_option maxRecDepth 100000 in
theorem ctJ0_coder_7d493 {l : Launch} {D : va_G} {cI cJ cQ : ClassId} (aK aV : Nat → Nat)   (si : Nat) (hsi : si < 7) {res : Int32} (h : fJ0_coder_7d493 si = some res) : CtIT l D cI cJ cQ aK aV yJ0_coder_7d493 wsJ0_coder_7d493 rmJ0_coder_7d493 [.ref (aK si)] ([]) res ([]) := by
  refine ctIT_of .byte (cc := cJ0_coder_7d493) (maxL := 1) (by decide) rfl (Nat.le_of_ble_eq_true rfl) ?_
  intro p e s m args below meth c A Q ls F hK hT hA RET hH hl
  obtain ⟨hx, hb, hml, hown, hts⟩ := id F
  have hl : lv_has ls 1 [(0, .ref (aK si))] := hl
  have hf : wpO (fJ0_coder_7d493 si) (fun v => v = res) := ⟨_, h, rfl⟩
  obtain ⟨H, eH⟩ : ∃ H, H = s.heap := ⟨_, rfl⟩
  obtain ⟨locs, eL⟩ : ∃ locs : List Loc, locs = [] := ⟨_, rfl⟩
  have hH : Hs D A s.heap ([]) H locs := by rw [eH, eL]; exact hH
  rw [← eL]
  suffices hgo : W p l e rmJ0_coder_7d493 s m args below meth c H locs 0 0 Q (F0 m 0 ls []) by rw [eH] at hgo; exact hgo
  clear eH eL
  refine va_gets hx hb hT.2.2.1 hH.2.2 hown (hts _ mbJ0_coder_7d493_f38) (fun _ h => h) dJ0_coder_7d493_0 ?_
  refine lv_if_eq (tgt := 13) hx hb dJ0_coder_7d493_3 (by decide) (fun hc => ?_) (fun hc => ?_)
  · have hf := wp_t hc hf
    refine lv_iconst (v := 1) hx hb dJ0_coder_7d493_13 (by decide) ?_
    have hrs := wp_s hf
    subst hrs
    exact RET H locs ls 14 dJ0_coder_7d493_14 (by show narrow .byte (.int 1) = .int 1; rfl) hH
  · have hf := wp_f hc hf
    refine lv_aload_n hx hb dJ0_coder_7d493_6 rfl (lv_at hl 0 rfl) ?_
    refine vk_getf hx hb (hT.1.1 si hsi).2.1 hH.2.2 hown (hts _ mbJ0_coder_7d493_f15) (fun _ h => h) dJ0_coder_7d493_7 ?_
    refine lv_goto (tgt := 14) hx hb dJ0_coder_7d493_10 (by decide) ?_
    have hrs := wp_s hf
    subst hrs
    exact RET H locs ls 14 dJ0_coder_7d493_14 (by show narrow .byte (.int 0) = .int 0; rfl) hH

def fJ0_length_8abf5 (si : Nat) : Option (Int32) :=
  Option.bind (fJ0_coder_7d493 si) fun x1 =>
  some ((nI (lenL.getD si 0)) >>> (x1 &&& 31))

def rmJ0_length_8abf5 : Room := { frames := 1, cells := 0, slots := 0, locals := 20 }
theorem mbJ0_length_8abf5_f9 : Cond.fieldLink RJ0 9 "java/lang/String" "value" "[B" ∈ wsJ0_length_8abf5 := by decide +kernel
theorem hdVJ0_length_8abf5 : yJ0_length_8abf5.cls = RJ0 ∧ yJ0_length_8abf5.cls ≠ "java/lang/invoke/MethodHandle" ∧ yJ0_length_8abf5.cls ≠ "java/lang/invoke/VarHandle" ∧ (parseMethodDescriptor yJ0_length_8abf5.desc).map (fun d => d.parameters.length) = some 0 := by decide +kernel
set_option maxHeartbeats 4000000 in
set_option maxRecDepth 100000 in
theorem ctJ0_length_8abf5 {l : Launch} {D : va_G} {cI cJ cQ : ClassId} (aK aV : Nat → Nat)   (si : Nat) (hsi : si < 7) {res : Int32} (h : fJ0_length_8abf5 si = some res) : CtIT l D cI cJ cQ aK aV yJ0_length_8abf5 wsJ0_length_8abf5 rmJ0_length_8abf5 [.ref (aK si)] ([]) res ([]) := by
  refine ctIT_of .int (cc := cJ0_length_8abf5) (maxL := 1) (by decide) rfl (Nat.le_of_ble_eq_true rfl) ?_
  intro p e s m args below meth c A Q ls F hK hT hA RET hH hl
  obtain ⟨hx, hb, hml, hown, hts⟩ := id F
  have hl : lv_has ls 1 [(0, .ref (aK si))] := hl
  have hf : wpO (fJ0_length_8abf5 si) (fun v => v = res) := ⟨_, h, rfl⟩
  obtain ⟨H, eH⟩ : ∃ H, H = s.heap := ⟨_, rfl⟩
  obtain ⟨locs, eL⟩ : ∃ locs : List Loc, locs = [] := ⟨_, rfl⟩
  have hH : Hs D A s.heap ([]) H locs := by rw [eH, eL]; exact hH
  rw [← eL]
  suffices hgo : W p l e rmJ0_length_8abf5 s m args below meth c H locs 0 0 Q (F0 m 0 ls []) by rw [eH] at hgo; exact hgo
  clear eH eL
  refine lv_aload_n hx hb dJ0_length_8abf5_0 rfl (lv_at hl 0 rfl) ?_
  refine vk_getf hx hb (hT.1.1 si hsi).2.2.1 hH.2.2 hown (hts _ mbJ0_length_8abf5_f9) (fun _ h => h) dJ0_length_8abf5_1 ?_
  refine va_tlen (v := nI (lenL.getD si 0)) hx hb (hT.1.1 si hsi).2.2.2 hH.2.2 rfl dJ0_length_8abf5_4 ?_
  refine lv_aload_n hx hb dJ0_length_8abf5_5 rfl (lv_at hl 0 rfl) ?_
  obtain ⟨x1, hcl, hf⟩ := wp_b hf
  refine k_ViT F hK hT hH hA hl.1 ⟨Nat.zero_le _, Nat.zero_le _⟩ [] [] [.int (nI (lenL.getD si 0))] (ctJ0_coder_7d493 aK aV si hsi hcl) (cwV 0 hts gJ0_length_8abf5_J0_coder_7d493 rfl rfl rfl hdVJ0_coder_7d493 ⟨Nat.le_of_ble_eq_true rfl, Nat.le_of_ble_eq_true rfl⟩) dJ0_length_8abf5_6 (vk_recv hT.1 hsi hH.2.2) rfl rfl (Nat.le_of_ble_eq_true rfl) rfl rfl (by decide) (fun H locs hH => ?_)
  have hH : Hs D A s.heap ([]) H locs := hH
  refine lv_ishr hx hb dJ0_length_8abf5_9 ?_
  have hrs := wp_s hf
  subst hrs
  exact RET H locs ls 10 dJ0_length_8abf5_10 rfl hH

def fJ0_isLatin1_aae02 (si : Nat) : Option (Int32) :=
  if (1 : Int32) = 0 then
    some 0
  else
    if (0 : Int32) = 0 then
      some 1
    else
      some 0

def rmJ0_isLatin1_aae02 : Room := { frames := 0, cells := 0, slots := 0, locals := 0 }
theorem mbJ0_isLatin1_aae02_f38 : Cond.fieldLink RJ0 38 "java/lang/String" "COMPACT_STRINGS" "Z" ∈ wsJ0_isLatin1_aae02 := by decide +kernel
theorem mbJ0_isLatin1_aae02_f15 : Cond.fieldLink RJ0 15 "java/lang/String" "coder" "B" ∈ wsJ0_isLatin1_aae02 := by decide +kernel
theorem hdVJ0_isLatin1_aae02 : yJ0_isLatin1_aae02.cls = RJ0 ∧ yJ0_isLatin1_aae02.cls ≠ "java/lang/invoke/MethodHandle" ∧ yJ0_isLatin1_aae02.cls ≠ "java/lang/invoke/VarHandle" ∧ (parseMethodDescriptor yJ0_isLatin1_aae02.desc).map (fun d => d.parameters.length) = some 0 := by decide +kernel
set_option maxHeartbeats 4000000 in
set_option maxRecDepth 100000 in
theorem ctJ0_isLatin1_aae02 {l : Launch} {D : va_G} {cI cJ cQ : ClassId} (aK aV : Nat → Nat)   (si : Nat) (hsi : si < 7) {res : Int32} (h : fJ0_isLatin1_aae02 si = some res) : CtIT l D cI cJ cQ aK aV yJ0_isLatin1_aae02 wsJ0_isLatin1_aae02 rmJ0_isLatin1_aae02 [.ref (aK si)] ([]) res ([]) := by
  refine ctIT_of .boolean (cc := cJ0_isLatin1_aae02) (maxL := 1) (by decide) rfl (Nat.le_of_ble_eq_true rfl) ?_
  intro p e s m args below meth c A Q ls F hK hT hA RET hH hl
  obtain ⟨hx, hb, hml, hown, hts⟩ := id F
  have hl : lv_has ls 1 [(0, .ref (aK si))] := hl
  have hf : wpO (fJ0_isLatin1_aae02 si) (fun v => v = res) := ⟨_, h, rfl⟩
  obtain ⟨H, eH⟩ : ∃ H, H = s.heap := ⟨_, rfl⟩
  obtain ⟨locs, eL⟩ : ∃ locs : List Loc, locs = [] := ⟨_, rfl⟩
  have hH : Hs D A s.heap ([]) H locs := by rw [eH, eL]; exact hH
  rw [← eL]
  suffices hgo : W p l e rmJ0_isLatin1_aae02 s m args below meth c H locs 0 0 Q (F0 m 0 ls []) by rw [eH] at hgo; exact hgo
  clear eH eL
  refine va_gets hx hb hT.2.2.1 hH.2.2 hown (hts _ mbJ0_isLatin1_aae02_f38) (fun _ h => h) dJ0_isLatin1_aae02_0 ?_
  refine lv_if_eq (tgt := 17) hx hb dJ0_isLatin1_aae02_3 (by decide) (fun hc => ?_) (fun hc => ?_)
  · have hf := wp_t hc hf
    refine lv_iconst (v := 0) hx hb dJ0_isLatin1_aae02_17 (by decide) ?_
    have hrs := wp_s hf
    subst hrs
    exact RET H locs ls 18 dJ0_isLatin1_aae02_18 (by show narrow .boolean (.int 0) = .int 0; rfl) hH
  · have hf := wp_f hc hf
    refine lv_aload_n hx hb dJ0_isLatin1_aae02_6 rfl (lv_at hl 0 rfl) ?_
    refine vk_getf hx hb (hT.1.1 si hsi).2.1 hH.2.2 hown (hts _ mbJ0_isLatin1_aae02_f15) (fun _ h => h) dJ0_isLatin1_aae02_7 ?_
    refine lv_if_ne (tgt := 17) hx hb dJ0_isLatin1_aae02_10 (by decide) (fun hc => ?_) (fun hc => ?_)
    · have hf := wp_f hc hf
      refine lv_iconst (v := 0) hx hb dJ0_isLatin1_aae02_17 (by decide) ?_
      have hrs := wp_s hf
      subst hrs
      exact RET H locs ls 18 dJ0_isLatin1_aae02_18 (by show narrow .boolean (.int 0) = .int 0; rfl) hH
    · have hf := wp_t hc hf
      refine lv_iconst (v := 1) hx hb dJ0_isLatin1_aae02_13 (by decide) ?_
      refine lv_goto (tgt := 18) hx hb dJ0_isLatin1_aae02_14 (by decide) ?_
      have hrs := wp_s hf
      subst hrs
      exact RET H locs ls 18 dJ0_isLatin1_aae02_18 (by show narrow .boolean (.int 1) = .int 1; rfl) hH

def fJ3_checkIndex_8e157 (v0 : Int32) (v1 : Int32) : Option (Int32) :=
  if v0 < 0 then
    none
  else
    if v0 < v1 then
      some v0
    else
      none

def rmJ3_checkIndex_8e157 : Room := { frames := 0, cells := 0, slots := 0, locals := 0 }
theorem hdSJ3_checkIndex_8e157 : yJ3_checkIndex_8e157.cls ≠ "java/lang/invoke/MethodHandle" ∧ yJ3_checkIndex_8e157.cls ≠ "java/lang/invoke/VarHandle" ∧ (parseMethodDescriptor yJ3_checkIndex_8e157.desc).map (fun d => d.parameters.length) = some 3 := by decide +kernel
set_option maxHeartbeats 4000000 in
set_option maxRecDepth 100000 in
theorem ctJ3_checkIndex_8e157n {l : Launch} {D : va_G} {cI cJ cQ : ClassId}   (v0 : Int32) (v1 : Int32) {res : Int32} (h : fJ3_checkIndex_8e157 v0 v1 = some res) : CtI l D cI cJ cQ yJ3_checkIndex_8e157 wsJ3_checkIndex_8e157 rmJ3_checkIndex_8e157 [.int v0, .int v1, .null] ([]) res ([]) := by
  refine ctI_of .int (cc := cJ3_checkIndex_8e157) (maxL := 3) (by decide) rfl (Nat.le_of_ble_eq_true rfl) ?_
  intro p e s m args below meth c A Q ls F hK hA RET hH hl
  obtain ⟨hx, hb, hml, hown, hts⟩ := id F
  have hl : lv_has ls 3 [(0, .int v0), (1, .int v1), (2, .null)] := hl
  have hf : wpO (fJ3_checkIndex_8e157 v0 v1) (fun v => v = res) := ⟨_, h, rfl⟩
  obtain ⟨H, eH⟩ : ∃ H, H = s.heap := ⟨_, rfl⟩
  obtain ⟨locs, eL⟩ : ∃ locs : List Loc, locs = [] := ⟨_, rfl⟩
  have hH : Hs D A s.heap ([]) H locs := by rw [eH, eL]; exact hH
  rw [← eL]
  suffices hgo : W p l e rmJ3_checkIndex_8e157 s m args below meth c H locs 0 0 Q (F0 m 0 ls []) by rw [eH] at hgo; exact hgo
  clear eH eL
  refine lv_iload_n hx hb dJ3_checkIndex_8e157_0 rfl (lv_at hl 0 rfl) ?_
  refine lv_if_lt (tgt := 9) hx hb dJ3_checkIndex_8e157_1 (by decide) (fun hc => ?_) (fun hc => ?_)
  · have hf := wp_t hc hf
    exact (wp_0 hf).elim
  · have hf := wp_f hc hf
    refine lv_iload_n hx hb dJ3_checkIndex_8e157_4 rfl (lv_at hl 0 rfl) ?_
    refine lv_iload_n hx hb dJ3_checkIndex_8e157_5 rfl (lv_at hl 1 rfl) ?_
    refine lv_icmp_lt (tgt := 16) hx hb dJ3_checkIndex_8e157_6 (by decide) (fun hc => ?_) (fun hc => ?_)
    · have hf := wp_t hc hf
      refine lv_iload_n hx hb dJ3_checkIndex_8e157_16 rfl (lv_at hl 0 rfl) ?_
      have hrs := wp_s hf
      subst hrs
      exact RET H locs ls 17 dJ3_checkIndex_8e157_17 rfl hH
    · have hf := wp_f hc hf
      exact (wp_0 hf).elim

set_option maxHeartbeats 4000000 in
set_option maxRecDepth 100000 in
theorem ctJ3_checkIndex_8e157r {l : Launch} {D : va_G} {cI cJ cQ : ClassId} (ft : Nat)   (v0 : Int32) (v1 : Int32) {res : Int32} (h : fJ3_checkIndex_8e157 v0 v1 = some res) : CtI l D cI cJ cQ yJ3_checkIndex_8e157 wsJ3_checkIndex_8e157 rmJ3_checkIndex_8e157 [.int v0, .int v1, .ref ft] ([]) res ([]) := by
  refine ctI_of .int (cc := cJ3_checkIndex_8e157) (maxL := 3) (by decide) rfl (Nat.le_of_ble_eq_true rfl) ?_
  intro p e s m args below meth c A Q ls F hK hA RET hH hl
  obtain ⟨hx, hb, hml, hown, hts⟩ := id F
  have hl : lv_has ls 3 [(0, .int v0), (1, .int v1), (2, .ref ft)] := hl
  have hf : wpO (fJ3_checkIndex_8e157 v0 v1) (fun v => v = res) := ⟨_, h, rfl⟩
  obtain ⟨H, eH⟩ : ∃ H, H = s.heap := ⟨_, rfl⟩
  obtain ⟨locs, eL⟩ : ∃ locs : List Loc, locs = [] := ⟨_, rfl⟩
  have hH : Hs D A s.heap ([]) H locs := by rw [eH, eL]; exact hH
  rw [← eL]
  suffices hgo : W p l e rmJ3_checkIndex_8e157 s m args below meth c H locs 0 0 Q (F0 m 0 ls []) by rw [eH] at hgo; exact hgo
  clear eH eL
  refine lv_iload_n hx hb dJ3_checkIndex_8e157_0 rfl (lv_at hl 0 rfl) ?_
  refine lv_if_lt (tgt := 9) hx hb dJ3_checkIndex_8e157_1 (by decide) (fun hc => ?_) (fun hc => ?_)
  · have hf := wp_t hc hf
    exact (wp_0 hf).elim
  · have hf := wp_f hc hf
    refine lv_iload_n hx hb dJ3_checkIndex_8e157_4 rfl (lv_at hl 0 rfl) ?_
    refine lv_iload_n hx hb dJ3_checkIndex_8e157_5 rfl (lv_at hl 1 rfl) ?_
    refine lv_icmp_lt (tgt := 16) hx hb dJ3_checkIndex_8e157_6 (by decide) (fun hc => ?_) (fun hc => ?_)
    · have hf := wp_t hc hf
      refine lv_iload_n hx hb dJ3_checkIndex_8e157_16 rfl (lv_at hl 0 rfl) ?_
      have hrs := wp_s hf
      subst hrs
      exact RET H locs ls 17 dJ3_checkIndex_8e157_17 rfl hH
    · have hf := wp_f hc hf
      exact (wp_0 hf).elim

def fJ0_checkIndex_df160 (v0 : Int32) (v1 : Int32) : Option (Unit) :=
  Option.bind (fJ3_checkIndex_8e157 v0 v1) fun x1 =>
  some ()

def rmJ0_checkIndex_df160 : Room := { frames := 1, cells := 0, slots := 0, locals := 22 }
theorem mbJ0_checkIndex_df160_f1053 : Cond.fieldLink RJ0 1053 "jdk/internal/util/Preconditions" "SIOOBE_FORMATTER" "Ljava/util/function/BiFunction;" ∈ wsJ0_checkIndex_df160 := by decide +kernel
theorem hdSJ0_checkIndex_df160 : yJ0_checkIndex_df160.cls ≠ "java/lang/invoke/MethodHandle" ∧ yJ0_checkIndex_df160.cls ≠ "java/lang/invoke/VarHandle" ∧ (parseMethodDescriptor yJ0_checkIndex_df160.desc).map (fun d => d.parameters.length) = some 2 := by decide +kernel
set_option maxHeartbeats 4000000 in
set_option maxRecDepth 100000 in
theorem ctJ0_checkIndex_df160 {l : Launch} {D : va_G} {cI cJ cQ : ClassId} (aK aV : Nat → Nat)   (v0 : Int32) (v1 : Int32) {res : Unit} (h : fJ0_checkIndex_df160 v0 v1 = some res) : CtVT l D cI cJ cQ aK aV yJ0_checkIndex_df160 wsJ0_checkIndex_df160 rmJ0_checkIndex_df160 [.int v0, .int v1] ([]) ([]) := by
  refine ctVT_of (cc := cJ0_checkIndex_df160) (maxL := 2) (by decide) rfl (Nat.le_of_ble_eq_true rfl) ?_
  intro p e s m args below meth c A Q ls F hK hT hA RET hH hl
  obtain ⟨hx, hb, hml, hown, hts⟩ := id F
  have hl : lv_has ls 2 [(0, .int v0), (1, .int v1)] := hl
  have hf : wpO (fJ0_checkIndex_df160 v0 v1) (fun v => v = res) := ⟨_, h, rfl⟩
  obtain ⟨H, eH⟩ : ∃ H, H = s.heap := ⟨_, rfl⟩
  obtain ⟨locs, eL⟩ : ∃ locs : List Loc, locs = [] := ⟨_, rfl⟩
  have hH : Hs D A s.heap ([]) H locs := by rw [eH, eL]; exact hH
  rw [← eL]
  suffices hgo : W p l e rmJ0_checkIndex_df160 s m args below meth c H locs 0 0 Q (F0 m 0 ls []) by rw [eH] at hgo; exact hgo
  clear eH eL
  refine lv_iload_n hx hb dJ0_checkIndex_df160_0 rfl (lv_at hl 0 rfl) ?_
  refine lv_iload_n hx hb dJ0_checkIndex_df160_1 rfl (lv_at hl 1 rfl) ?_
  rcases hT.2.2.2 with hZ | ⟨ft, hZ⟩
  · refine va_gets hx hb hZ hH.2.2 hown (hts _ mbJ0_checkIndex_df160_f1053) (fun _ h => h) dJ0_checkIndex_df160_2 ?_
    obtain ⟨x1, hcl, hf⟩ := wp_b hf
    refine k_Si F hK hH hA hl.1 ⟨Nat.zero_le _, Nat.zero_le _⟩ [] [.int v0, .int v1, .null] [] (ctJ3_checkIndex_8e157n v0 v1 hcl) (va_cwS 3 hts gJ0_checkIndex_df160_J3_checkIndex_8e157 rfl rfl rfl hdSJ3_checkIndex_8e157 ⟨Nat.le_of_ble_eq_true rfl, Nat.le_of_ble_eq_true rfl⟩) dJ0_checkIndex_df160_5 rfl rfl (Nat.le_of_ble_eq_true rfl) rfl rfl (by decide) (fun H locs hH => ?_)
    have hH : Hs D A s.heap ([]) H locs := hH
    refine lv_pop hx hb dJ0_checkIndex_df160_8 rfl ?_
    have hrs := wp_s hf
    subst hrs
    exact RET H locs ls 9 dJ0_checkIndex_df160_9 hH
  · refine va_gets hx hb hZ hH.2.2 hown (hts _ mbJ0_checkIndex_df160_f1053) (fun _ h => h) dJ0_checkIndex_df160_2 ?_
    obtain ⟨x1, hcl, hf⟩ := wp_b hf
    refine k_Si F hK hH hA hl.1 ⟨Nat.zero_le _, Nat.zero_le _⟩ [] [.int v0, .int v1, .ref ft] [] (ctJ3_checkIndex_8e157r ft v0 v1 hcl) (va_cwS 3 hts gJ0_checkIndex_df160_J3_checkIndex_8e157 rfl rfl rfl hdSJ3_checkIndex_8e157 ⟨Nat.le_of_ble_eq_true rfl, Nat.le_of_ble_eq_true rfl⟩) dJ0_checkIndex_df160_5 rfl rfl (Nat.le_of_ble_eq_true rfl) rfl rfl (by decide) (fun H locs hH => ?_)
    have hH : Hs D A s.heap ([]) H locs := hH
    refine lv_pop hx hb dJ0_checkIndex_df160_8 rfl ?_
    have hrs := wp_s hf
    subst hrs
    exact RET H locs ls 9 dJ0_checkIndex_df160_9 hH

def fJ1_charAt_3b067 (si : Nat) (v1 : Int32) : Option (Int32) :=
  Option.bind (fJ0_checkIndex_df160 v1 (nI (lenL.getD si 0))) fun x1 =>
  if ob v1 (lenL.getD si 0) then none else
  some (ich (((bytL.getD si []).getD (Int32.toNatClampNeg v1) 0) &&& 255))

def rmJ1_charAt_3b067 : Room := { frames := 2, cells := 0, slots := 0, locals := 43 }
theorem hdSJ1_charAt_3b067 : yJ1_charAt_3b067.cls ≠ "java/lang/invoke/MethodHandle" ∧ yJ1_charAt_3b067.cls ≠ "java/lang/invoke/VarHandle" ∧ (parseMethodDescriptor yJ1_charAt_3b067.desc).map (fun d => d.parameters.length) = some 2 := by decide +kernel
set_option maxHeartbeats 4000000 in
set_option maxRecDepth 100000 in
theorem ctJ1_charAt_3b067 {l : Launch} {D : va_G} {cI cJ cQ : ClassId} (aK aV : Nat → Nat)   (si : Nat) (hsi : si < 7) (v1 : Int32) {res : Int32} (h : fJ1_charAt_3b067 si v1 = some res) : CtIT l D cI cJ cQ aK aV yJ1_charAt_3b067 wsJ1_charAt_3b067 rmJ1_charAt_3b067 [.ref (aV si), .int v1] ([]) res ([]) := by
  refine ctIT_of .char (cc := cJ1_charAt_3b067) (maxL := 2) (by decide) rfl (Nat.le_of_ble_eq_true rfl) ?_
  intro p e s m args below meth c A Q ls F hK hT hA RET hH hl
  obtain ⟨hx, hb, hml, hown, hts⟩ := id F
  have hl : lv_has ls 2 [(0, .ref (aV si)), (1, .int v1)] := hl
  have hf : wpO (fJ1_charAt_3b067 si v1) (fun v => v = res) := ⟨_, h, rfl⟩
  obtain ⟨H, eH⟩ : ∃ H, H = s.heap := ⟨_, rfl⟩
  obtain ⟨locs, eL⟩ : ∃ locs : List Loc, locs = [] := ⟨_, rfl⟩
  have hH : Hs D A s.heap ([]) H locs := by rw [eH, eL]; exact hH
  rw [← eL]
  suffices hgo : W p l e rmJ1_charAt_3b067 s m args below meth c H locs 0 0 Q (F0 m 0 ls []) by rw [eH] at hgo; exact hgo
  clear eH eL
  refine lv_iload_n hx hb dJ1_charAt_3b067_0 rfl (lv_at hl 1 rfl) ?_
  refine lv_aload_n hx hb dJ1_charAt_3b067_1 rfl (lv_at hl 0 rfl) ?_
  refine va_tlen (v := nI (lenL.getD si 0)) hx hb (hT.1.1 si hsi).2.2.2 hH.2.2 rfl dJ1_charAt_3b067_2 ?_
  obtain ⟨x1, hcl, hf⟩ := wp_b hf
  refine k_SvT F hK hT hH hA hl.1 ⟨Nat.zero_le _, Nat.zero_le _⟩ [] [.int v1, .int (nI (lenL.getD si 0))] [] (ctJ0_checkIndex_df160 aK aV v1 (nI (lenL.getD si 0)) hcl) (va_cwS 2 hts gJ1_charAt_3b067_J0_checkIndex_df160 rfl rfl rfl hdSJ0_checkIndex_df160 ⟨Nat.le_of_ble_eq_true rfl, Nat.le_of_ble_eq_true rfl⟩) dJ1_charAt_3b067_3 rfl rfl (Nat.le_of_ble_eq_true rfl) rfl rfl (by decide) (fun H locs hH => ?_)
  have hH : Hs D A s.heap ([]) H locs := hH
  refine lv_aload_n hx hb dJ1_charAt_3b067_6 rfl (lv_at hl 0 rfl) ?_
  refine lv_iload_n hx hb dJ1_charAt_3b067_7 rfl (lv_at hl 1 rfl) ?_
  obtain ⟨hi, hf⟩ := wp_n hf
  refine va_tb (v := .int ((bytL.getD si []).getD (Int32.toNatClampNeg v1) 0)) hx hb (hT.1.1 si hsi).2.2.2 hH.2.2 hi rfl dJ1_charAt_3b067_8 ?_
  refine lv_sipush (v := 255) hx hb dJ1_charAt_3b067_9 (by decide) ?_
  refine lv_iand hx hb dJ1_charAt_3b067_12 ?_
  refine lv_i2c (v := ich (((bytL.getD si []).getD (Int32.toNatClampNeg v1) 0) &&& 255)) hx hb dJ1_charAt_3b067_13 rfl ?_
  have hrs := wp_s hf
  subst hrs
  exact RET H locs ls 14 dJ1_charAt_3b067_14 (pk_nc _) hH

def fJ0_charAt_5068e (si : Nat) (v1 : Int32) : Option (Int32) :=
  Option.bind (fJ0_isLatin1_aae02 si) fun x1 =>
  if x1 = 0 then
    none
  else
    Option.bind (fJ1_charAt_3b067 si v1) fun x2 =>
    (co x2).bind fun z3 =>
    some z3

def rmJ0_charAt_5068e : Room := { frames := 3, cells := 0, slots := 0, locals := 64 }
theorem mbJ0_charAt_5068e_f9 : Cond.fieldLink RJ0 9 "java/lang/String" "value" "[B" ∈ wsJ0_charAt_5068e := by decide +kernel
theorem hdVJ0_charAt_5068e : yJ0_charAt_5068e.cls = RJ0 ∧ yJ0_charAt_5068e.cls ≠ "java/lang/invoke/MethodHandle" ∧ yJ0_charAt_5068e.cls ≠ "java/lang/invoke/VarHandle" ∧ (parseMethodDescriptor yJ0_charAt_5068e.desc).map (fun d => d.parameters.length) = some 1 := by decide +kernel
set_option maxHeartbeats 4000000 in
set_option maxRecDepth 100000 in
theorem ctJ0_charAt_5068e {l : Launch} {D : va_G} {cI cJ cQ : ClassId} (aK aV : Nat → Nat)   (si : Nat) (hsi : si < 7) (v1 : Int32) {res : Int32} (h : fJ0_charAt_5068e si v1 = some res) : CtIT l D cI cJ cQ aK aV yJ0_charAt_5068e wsJ0_charAt_5068e rmJ0_charAt_5068e [.ref (aK si), .int v1] ([]) res ([]) := by
  refine ctIT_of .char (cc := cJ0_charAt_5068e) (maxL := 2) (by decide) rfl (Nat.le_of_ble_eq_true rfl) ?_
  intro p e s m args below meth c A Q ls F hK hT hA RET hH hl
  obtain ⟨hx, hb, hml, hown, hts⟩ := id F
  have hl : lv_has ls 2 [(0, .ref (aK si)), (1, .int v1)] := hl
  have hf : wpO (fJ0_charAt_5068e si v1) (fun v => v = res) := ⟨_, h, rfl⟩
  obtain ⟨H, eH⟩ : ∃ H, H = s.heap := ⟨_, rfl⟩
  obtain ⟨locs, eL⟩ : ∃ locs : List Loc, locs = [] := ⟨_, rfl⟩
  have hH : Hs D A s.heap ([]) H locs := by rw [eH, eL]; exact hH
  rw [← eL]
  suffices hgo : W p l e rmJ0_charAt_5068e s m args below meth c H locs 0 0 Q (F0 m 0 ls []) by rw [eH] at hgo; exact hgo
  clear eH eL
  refine lv_aload_n hx hb dJ0_charAt_5068e_0 rfl (lv_at hl 0 rfl) ?_
  obtain ⟨x1, hcl, hf⟩ := wp_b hf
  refine k_ViT F hK hT hH hA hl.1 ⟨Nat.zero_le _, Nat.zero_le _⟩ [] [] [] (ctJ0_isLatin1_aae02 aK aV si hsi hcl) (cwV 0 hts gJ0_charAt_5068e_J0_isLatin1_aae02 rfl rfl rfl hdVJ0_isLatin1_aae02 ⟨Nat.le_of_ble_eq_true rfl, Nat.le_of_ble_eq_true rfl⟩) dJ0_charAt_5068e_1 (vk_recv hT.1 hsi hH.2.2) rfl rfl (Nat.le_of_ble_eq_true rfl) rfl rfl (by decide) (fun H locs hH => ?_)
  have hH : Hs D A s.heap ([]) H locs := hH
  refine lv_if_eq (tgt := 16) hx hb dJ0_charAt_5068e_4 (by decide) (fun hc => ?_) (fun hc => ?_)
  · have hf := wp_t hc hf
    refine lv_aload_n hx hb dJ0_charAt_5068e_16 rfl (lv_at hl 0 rfl) ?_
    refine vk_getf hx hb (hT.1.1 si hsi).2.2.1 hH.2.2 hown (hts _ mbJ0_charAt_5068e_f9) (fun _ h => h) dJ0_charAt_5068e_17 ?_
    refine lv_iload_n hx hb dJ0_charAt_5068e_20 rfl (lv_at hl 1 rfl) ?_
    exact (wp_0 hf).elim
  · have hf := wp_f hc hf
    refine lv_aload_n hx hb dJ0_charAt_5068e_7 rfl (lv_at hl 0 rfl) ?_
    refine vk_getf hx hb (hT.1.1 si hsi).2.2.1 hH.2.2 hown (hts _ mbJ0_charAt_5068e_f9) (fun _ h => h) dJ0_charAt_5068e_8 ?_
    refine lv_iload_n hx hb dJ0_charAt_5068e_11 rfl (lv_at hl 1 rfl) ?_
    obtain ⟨x2, hcl, hf⟩ := wp_b hf
    refine k_SiT F hK hT hH hA hl.1 ⟨Nat.zero_le _, Nat.zero_le _⟩ [] [.ref (aV si), .int v1] [] (ctJ1_charAt_3b067 aK aV si hsi v1 hcl) (va_cwS 2 hts gJ0_charAt_5068e_J1_charAt_3b067 rfl rfl rfl hdSJ1_charAt_3b067 ⟨Nat.le_of_ble_eq_true rfl, Nat.le_of_ble_eq_true rfl⟩) dJ0_charAt_5068e_12 rfl rfl (Nat.le_of_ble_eq_true rfl) rfl rfl (by decide) (fun H locs hH => ?_)
    have hH : Hs D A s.heap ([]) H locs := hH
    obtain ⟨z3, hbo, hf⟩ := wp_b hf
    obtain ⟨hbe, hnb⟩ := co_narrow hbo
    rw [hbe] at hf
    have hrs := wp_s hf
    subst hrs
    exact RET H locs ls 15 dJ0_charAt_5068e_15 hnb hH

def fJ1_canEncode_9a6ad (v0 : Int32) : Option (Int32) :=
  if v0 < 0 then
    some 0
  else
    if (255 : Int32) < v0 then
      some 0
    else
      some 1

def rmJ1_canEncode_9a6ad : Room := { frames := 0, cells := 0, slots := 0, locals := 0 }
theorem hdSJ1_canEncode_9a6ad : yJ1_canEncode_9a6ad.cls ≠ "java/lang/invoke/MethodHandle" ∧ yJ1_canEncode_9a6ad.cls ≠ "java/lang/invoke/VarHandle" ∧ (parseMethodDescriptor yJ1_canEncode_9a6ad.desc).map (fun d => d.parameters.length) = some 1 := by decide +kernel
set_option maxHeartbeats 4000000 in
set_option maxRecDepth 100000 in
theorem ctJ1_canEncode_9a6ad {l : Launch} {D : va_G} {cI cJ cQ : ClassId}   (v0 : Int32) {res : Int32} (h : fJ1_canEncode_9a6ad v0 = some res) : CtI l D cI cJ cQ yJ1_canEncode_9a6ad wsJ1_canEncode_9a6ad rmJ1_canEncode_9a6ad [.int v0] ([]) res ([]) := by
  refine ctI_of .boolean (cc := cJ1_canEncode_9a6ad) (maxL := 1) (by decide) rfl (Nat.le_of_ble_eq_true rfl) ?_
  intro p e s m args below meth c A Q ls F hK hA RET hH hl
  obtain ⟨hx, hb, hml, hown, hts⟩ := id F
  have hl : lv_has ls 1 [(0, .int v0)] := hl
  have hf : wpO (fJ1_canEncode_9a6ad v0) (fun v => v = res) := ⟨_, h, rfl⟩
  obtain ⟨H, eH⟩ : ∃ H, H = s.heap := ⟨_, rfl⟩
  obtain ⟨locs, eL⟩ : ∃ locs : List Loc, locs = [] := ⟨_, rfl⟩
  have hH : Hs D A s.heap ([]) H locs := by rw [eH, eL]; exact hH
  rw [← eL]
  suffices hgo : W p l e rmJ1_canEncode_9a6ad s m args below meth c H locs 0 0 Q (F0 m 0 ls []) by rw [eH] at hgo; exact hgo
  clear eH eL
  refine lv_iload_n hx hb dJ1_canEncode_9a6ad_0 rfl (lv_at hl 0 rfl) ?_
  refine lv_if_lt (tgt := 15) hx hb dJ1_canEncode_9a6ad_1 (by decide) (fun hc => ?_) (fun hc => ?_)
  · have hf := wp_t hc hf
    refine lv_iconst (v := 0) hx hb dJ1_canEncode_9a6ad_15 (by decide) ?_
    have hrs := wp_s hf
    subst hrs
    exact RET H locs ls 16 dJ1_canEncode_9a6ad_16 (by show narrow .boolean (.int 0) = .int 0; rfl) hH
  · have hf := wp_f hc hf
    refine lv_iload_n hx hb dJ1_canEncode_9a6ad_4 rfl (lv_at hl 0 rfl) ?_
    refine lv_sipush (v := 255) hx hb dJ1_canEncode_9a6ad_5 (by decide) ?_
    refine lv_icmp_gt (tgt := 15) hx hb dJ1_canEncode_9a6ad_8 (by decide) (fun hc => ?_) (fun hc => ?_)
    · have hf := wp_t hc hf
      refine lv_iconst (v := 0) hx hb dJ1_canEncode_9a6ad_15 (by decide) ?_
      have hrs := wp_s hf
      subst hrs
      exact RET H locs ls 16 dJ1_canEncode_9a6ad_16 (by show narrow .boolean (.int 0) = .int 0; rfl) hH
    · have hf := wp_f hc hf
      refine lv_iconst (v := 1) hx hb dJ1_canEncode_9a6ad_11 (by decide) ?_
      refine lv_goto (tgt := 16) hx hb dJ1_canEncode_9a6ad_12 (by decide) ?_
      have hrs := wp_s hf
      subst hrs
      exact RET H locs ls 16 dJ1_canEncode_9a6ad_16 (by show narrow .boolean (.int 1) = .int 1; rfl) hH

def bJ1_indexOfChar_4cfef_7 (si : Nat) (v1 : Int32) (v3 : Int32) : (Int32) → Option ((Int32) ⊕ ((Int32) ⊕ (Unit))) := fun (t1 : Int32) =>
  if v3 ≤ t1 then
    some (.inr (.inr ()))
  else
    if ob t1 (lenL.getD si 0) then none else
    if ((bytL.getD si []).getD (Int32.toNatClampNeg t1) 0) = (ib8 v1) then
      some (.inr (.inl t1))
    else
      some (.inl (t1 + 1))

def fJ1_indexOfChar_4cfef (si : Nat) (v1 : Int32) (v2 : Int32) (v3 : Int32) : Option (Int32) :=
  Option.bind (lp (bJ1_indexOfChar_4cfef_7 si v1 v3) fu v2) (el (fun v => some v) (fun (_ : Unit) =>
    some (-1)))

def rmJ1_indexOfChar_4cfef : Room := { frames := 0, cells := 0, slots := 0, locals := 0 }
theorem hdSJ1_indexOfChar_4cfef : yJ1_indexOfChar_4cfef.cls ≠ "java/lang/invoke/MethodHandle" ∧ yJ1_indexOfChar_4cfef.cls ≠ "java/lang/invoke/VarHandle" ∧ (parseMethodDescriptor yJ1_indexOfChar_4cfef.desc).map (fun d => d.parameters.length) = some 4 := by decide +kernel
set_option maxHeartbeats 4000000 in
set_option maxRecDepth 100000 in
theorem ctJ1_indexOfChar_4cfef {l : Launch} {D : va_G} {cI cJ cQ : ClassId} (aK aV : Nat → Nat)   (si : Nat) (hsi : si < 7) (v1 : Int32) (v2 : Int32) (v3 : Int32) {res : Int32} (h : fJ1_indexOfChar_4cfef si v1 v2 v3 = some res) : CtIT l D cI cJ cQ aK aV yJ1_indexOfChar_4cfef wsJ1_indexOfChar_4cfef rmJ1_indexOfChar_4cfef [.ref (aV si), .int v1, .int v2, .int v3] ([]) res ([]) := by
  refine ctIT_of .int (cc := cJ1_indexOfChar_4cfef) (maxL := 6) (by decide) rfl (Nat.le_of_ble_eq_true rfl) ?_
  intro p e s m args below meth c A Q ls F hK hT hA RET hH hl
  obtain ⟨hx, hb, hml, hown, hts⟩ := id F
  have hl : lv_has ls 6 [(0, .ref (aV si)), (1, .int v1), (2, .int v2), (3, .int v3)] := hl
  have hf : wpO (fJ1_indexOfChar_4cfef si v1 v2 v3) (fun v => v = res) := ⟨_, h, rfl⟩
  obtain ⟨H, eH⟩ : ∃ H, H = s.heap := ⟨_, rfl⟩
  obtain ⟨locs, eL⟩ : ∃ locs : List Loc, locs = [] := ⟨_, rfl⟩
  have hH : Hs D A s.heap ([]) H locs := by rw [eH, eL]; exact hH
  rw [← eL]
  suffices hgo : W p l e rmJ1_indexOfChar_4cfef s m args below meth c H locs 0 0 Q (F0 m 0 ls []) by rw [eH] at hgo; exact hgo
  clear eH eL
  refine lv_iload_n hx hb dJ1_indexOfChar_4cfef_0 rfl (lv_at hl 1 rfl) ?_
  refine lv_i2b (v := ib8 v1) hx hb dJ1_indexOfChar_4cfef_1 rfl ?_
  refine lv_istore (lv' := [(4, .int (ib8 v1)), (0, .ref (aV si)), (1, .int v1), (2, .int v2), (3, .int v3)]) hx hb dJ1_indexOfChar_4cfef_2 hl (by decide) rfl (fun ls hl => ?_)
  refine lv_iload_n hx hb dJ1_indexOfChar_4cfef_4 rfl (lv_at hl 3 rfl) ?_
  refine lv_istore (lv' := [(5, .int v2), (4, .int (ib8 v1)), (0, .ref (aV si)), (1, .int v1), (2, .int v2), (3, .int v3)]) hx hb dJ1_indexOfChar_4cfef_5 hl (by decide) rfl (fun ls hl => ?_)
  have LP : ∀ (Φ : ((Int32) ⊕ (Unit)) → Prop), (∀ v : Int32, Φ (.inl v) → v = res) → (∀ (_ : Unit) (H : Heap) (locs : List Loc) (ls : Array Slot), Φ (.inr ()) → Hs D A s.heap ([]) H locs → lv_has ls 6 [] → W p l e rmJ1_indexOfChar_4cfef s m args below meth c H locs 0 0 Q (F0 m 31 ls [])) → ∀ (n : Nat) (t1 : Int32) (H : Heap) (locs : List Loc) (ls : Array Slot), wpO (lp (bJ1_indexOfChar_4cfef_7 si v1 v3) n t1) Φ → Hs D A s.heap ([]) H locs → lv_has ls 6 [(0, .ref (aV si)), (3, .int v3), (4, .int (ib8 v1)), (5, .int t1)] → W p l e rmJ1_indexOfChar_4cfef s m args below meth c H locs 0 0 Q (F0 m 7 ls []) := by
    intro Φ hret EX n
    induction n with
    | zero =>
      intro t1 H locs ls hf hH hl
      exact (wp_l0 hf).elim
    | succ n ih =>
      intro t1 H locs ls hf hH hl
      have hf := wp_l hf
      refine lv_iload hx hb dJ1_indexOfChar_4cfef_7 (lv_at hl 3 rfl) ?_
      refine lv_iload_n hx hb dJ1_indexOfChar_4cfef_9 rfl (lv_at hl 1 rfl) ?_
      refine lv_icmp_ge (tgt := 31) hx hb dJ1_indexOfChar_4cfef_10 (by decide) (fun hc => ?_) (fun hc => ?_)
      · have hf := wp_t hc hf
        have hw := wp_out hf
        exact EX () _ _ _ hw hH (lv_sub hl [] rfl)
      · have hf := wp_f hc hf
        refine lv_aload_n hx hb dJ1_indexOfChar_4cfef_13 rfl (lv_at hl 0 rfl) ?_
        refine lv_iload hx hb dJ1_indexOfChar_4cfef_14 (lv_at hl 3 rfl) ?_
        obtain ⟨hi, hf⟩ := wp_n hf
        refine va_tb (v := .int ((bytL.getD si []).getD (Int32.toNatClampNeg t1) 0)) hx hb (hT.1.1 si hsi).2.2.2 hH.2.2 hi rfl dJ1_indexOfChar_4cfef_16 ?_
        refine lv_iload hx hb dJ1_indexOfChar_4cfef_17 (lv_at hl 2 rfl) ?_
        refine lv_icmp_ne (tgt := 25) hx hb dJ1_indexOfChar_4cfef_19 (by decide) (fun hc => ?_) (fun hc => ?_)
        · have hf := wp_f hc hf
          refine lv_iinc (v := t1 + 1) (lv' := [(5, .int (t1 + 1)), (0, .ref (aV si)), (3, .int v3), (4, .int (ib8 v1))]) hx hb dJ1_indexOfChar_4cfef_25 hl (k := 3) rfl rfl (by decide) rfl (fun ls hl => ?_)
          refine lv_goto (tgt := 7) hx hb dJ1_indexOfChar_4cfef_28 (by decide) ?_
          have hw := wp_in hf
          exact ih _ _ _ _ hw hH (lv_sub hl [1, 2, 3, 0] rfl)
        · have hf := wp_t hc hf
          refine lv_iload hx hb dJ1_indexOfChar_4cfef_22 (lv_at hl 3 rfl) ?_
          have hrs := hret _ (wp_out hf)
          subst hrs
          exact RET H locs ls 24 dJ1_indexOfChar_4cfef_24 rfl hH
  refine LP _ (fun v hv => by have h9 := wp_s hv; exact h9) (fun _ H locs ls hf hH hl => ?_) fu _ _ _ _ (wp_bb hf) hH (lv_sub hl [2, 5, 1, 0] rfl)
  refine lv_iconst (v := (-1)) hx hb dJ1_indexOfChar_4cfef_31 (by decide) ?_
  have hrs := wp_s hf
  subst hrs
  exact RET H locs ls 32 dJ1_indexOfChar_4cfef_32 rfl hH

def fJ1_indexOf_4cfef (si : Nat) (v1 : Int32) (v2 : Int32) (v3 : Int32) : Option (Int32) :=
  Option.bind (fJ1_canEncode_9a6ad v1) fun x1 =>
  if x1 = 0 then
    some (-1)
  else
    if (imax v2 0) < (imin v3 (nI (lenL.getD si 0))) then
      Option.bind (fJ1_indexOfChar_4cfef si v1 (imax v2 0) (imin v3 (nI (lenL.getD si 0)))) fun x2 =>
      some x2
    else
      some (-1)

def rmJ1_indexOf_4cfef : Room := { frames := 1, cells := 0, slots := 0, locals := 25 }
theorem mbJ1_indexOf_4cfef_m92 : Cond.methodLink RJ1 92 Lib.Math.max.name ∈ wsJ1_indexOf_4cfef := by decide +kernel
theorem mbJ1_indexOf_4cfef_max1 : Cond.static Lib.Math.max.name ∈ wsJ1_indexOf_4cfef := by decide +kernel
theorem mbJ1_indexOf_4cfef_max2 : Cond.initialized "java/lang/Math" ∈ wsJ1_indexOf_4cfef := by decide +kernel
theorem mbJ1_indexOf_4cfef_max3 : Cond.code Lib.Math.max.name Lib.Math.max.code 2 (some .int) ∈ wsJ1_indexOf_4cfef := by decide +kernel
theorem mbJ1_indexOf_4cfef_m38 : Cond.methodLink RJ1 38 Lib.Math.min.name ∈ wsJ1_indexOf_4cfef := by decide +kernel
theorem mbJ1_indexOf_4cfef_min1 : Cond.static Lib.Math.min.name ∈ wsJ1_indexOf_4cfef := by decide +kernel
theorem mbJ1_indexOf_4cfef_min2 : Cond.initialized "java/lang/Math" ∈ wsJ1_indexOf_4cfef := by decide +kernel
theorem mbJ1_indexOf_4cfef_min3 : Cond.code Lib.Math.min.name Lib.Math.min.code 2 (some .int) ∈ wsJ1_indexOf_4cfef := by decide +kernel
theorem hdSJ1_indexOf_4cfef : yJ1_indexOf_4cfef.cls ≠ "java/lang/invoke/MethodHandle" ∧ yJ1_indexOf_4cfef.cls ≠ "java/lang/invoke/VarHandle" ∧ (parseMethodDescriptor yJ1_indexOf_4cfef.desc).map (fun d => d.parameters.length) = some 4 := by decide +kernel
set_option maxHeartbeats 4000000 in
set_option maxRecDepth 100000 in
theorem ctJ1_indexOf_4cfef {l : Launch} {D : va_G} {cI cJ cQ : ClassId} (aK aV : Nat → Nat)   (si : Nat) (hsi : si < 7) (v1 : Int32) (v2 : Int32) (v3 : Int32) {res : Int32} (h : fJ1_indexOf_4cfef si v1 v2 v3 = some res) : CtIT l D cI cJ cQ aK aV yJ1_indexOf_4cfef wsJ1_indexOf_4cfef rmJ1_indexOf_4cfef [.ref (aV si), .int v1, .int v2, .int v3] ([]) res ([]) := by
  refine ctIT_of .int (cc := cJ1_indexOf_4cfef) (maxL := 4) (by decide) rfl (Nat.le_of_ble_eq_true rfl) ?_
  intro p e s m args below meth c A Q ls F hK hT hA RET hH hl
  obtain ⟨hx, hb, hml, hown, hts⟩ := id F
  have hl : lv_has ls 4 [(0, .ref (aV si)), (1, .int v1), (2, .int v2), (3, .int v3)] := hl
  have hf : wpO (fJ1_indexOf_4cfef si v1 v2 v3) (fun v => v = res) := ⟨_, h, rfl⟩
  obtain ⟨H, eH⟩ : ∃ H, H = s.heap := ⟨_, rfl⟩
  obtain ⟨locs, eL⟩ : ∃ locs : List Loc, locs = [] := ⟨_, rfl⟩
  have hH : Hs D A s.heap ([]) H locs := by rw [eH, eL]; exact hH
  rw [← eL]
  suffices hgo : W p l e rmJ1_indexOf_4cfef s m args below meth c H locs 0 0 Q (F0 m 0 ls []) by rw [eH] at hgo; exact hgo
  clear eH eL
  refine lv_iload_n hx hb dJ1_indexOf_4cfef_0 rfl (lv_at hl 1 rfl) ?_
  obtain ⟨x1, hcl, hf⟩ := wp_b hf
  refine k_Si F hK hH hA hl.1 ⟨Nat.zero_le _, Nat.zero_le _⟩ [] [.int v1] [] (ctJ1_canEncode_9a6ad v1 hcl) (va_cwS 1 hts gJ1_indexOf_4cfef_J1_canEncode_9a6ad rfl rfl rfl hdSJ1_canEncode_9a6ad ⟨Nat.le_of_ble_eq_true rfl, Nat.le_of_ble_eq_true rfl⟩) dJ1_indexOf_4cfef_1 rfl rfl (Nat.le_of_ble_eq_true rfl) rfl rfl (by decide) (fun H locs hH => ?_)
  have hH : Hs D A s.heap ([]) H locs := hH
  refine lv_if_ne (tgt := 9) hx hb dJ1_indexOf_4cfef_4 (by decide) (fun hc => ?_) (fun hc => ?_)
  · have hf := wp_f hc hf
    refine lv_iload_n hx hb dJ1_indexOf_4cfef_9 rfl (lv_at hl 2 rfl) ?_
    refine lv_iconst (v := 0) hx hb dJ1_indexOf_4cfef_10 (by decide) ?_
    refine k_max F hl.1 mbJ1_indexOf_4cfef_m92 mbJ1_indexOf_4cfef_max1 mbJ1_indexOf_4cfef_max2 mbJ1_indexOf_4cfef_max3 (Nat.le_of_ble_eq_true rfl) (Nat.le_of_ble_eq_true rfl) ⟨Nat.zero_le _, Nat.zero_le _⟩ dJ1_indexOf_4cfef_11 ?_
    refine W.eq (g2 := F0 m 14 ls [.int (imax v2 0)]) rfl ?_
    refine lv_istore_n (lv' := [(2, .int (imax v2 0)), (0, .ref (aV si)), (1, .int v1), (3, .int v3)]) hx hb dJ1_indexOf_4cfef_14 rfl hl (by decide) rfl (fun ls hl => ?_)
    refine lv_iload_n hx hb dJ1_indexOf_4cfef_15 rfl (lv_at hl 3 rfl) ?_
    refine lv_aload_n hx hb dJ1_indexOf_4cfef_16 rfl (lv_at hl 1 rfl) ?_
    refine va_tlen (v := nI (lenL.getD si 0)) hx hb (hT.1.1 si hsi).2.2.2 hH.2.2 rfl dJ1_indexOf_4cfef_17 ?_
    refine k_min F hl.1 mbJ1_indexOf_4cfef_m38 mbJ1_indexOf_4cfef_min1 mbJ1_indexOf_4cfef_min2 mbJ1_indexOf_4cfef_min3 (Nat.le_of_ble_eq_true rfl) (Nat.le_of_ble_eq_true rfl) ⟨Nat.zero_le _, Nat.zero_le _⟩ dJ1_indexOf_4cfef_18 ?_
    refine W.eq (g2 := F0 m 21 ls [.int (imin v3 (nI (lenL.getD si 0)))]) rfl ?_
    refine lv_istore_n (lv' := [(3, .int (imin v3 (nI (lenL.getD si 0)))), (2, .int (imax v2 0)), (0, .ref (aV si)), (1, .int v1)]) hx hb dJ1_indexOf_4cfef_21 rfl hl (by decide) rfl (fun ls hl => ?_)
    refine lv_iload_n hx hb dJ1_indexOf_4cfef_22 rfl (lv_at hl 1 rfl) ?_
    refine lv_iload_n hx hb dJ1_indexOf_4cfef_23 rfl (lv_at hl 0 rfl) ?_
    refine lv_icmp_lt (tgt := 29) hx hb dJ1_indexOf_4cfef_24 (by decide) (fun hc => ?_) (fun hc => ?_)
    · have hf := wp_t hc hf
      refine lv_aload_n hx hb dJ1_indexOf_4cfef_29 rfl (lv_at hl 2 rfl) ?_
      refine lv_iload_n hx hb dJ1_indexOf_4cfef_30 rfl (lv_at hl 3 rfl) ?_
      refine lv_iload_n hx hb dJ1_indexOf_4cfef_31 rfl (lv_at hl 1 rfl) ?_
      refine lv_iload_n hx hb dJ1_indexOf_4cfef_32 rfl (lv_at hl 0 rfl) ?_
      obtain ⟨x2, hcl, hf⟩ := wp_b hf
      refine k_SiT F hK hT hH hA hl.1 ⟨Nat.zero_le _, Nat.zero_le _⟩ [] [.ref (aV si), .int v1, .int (imax v2 0), .int (imin v3 (nI (lenL.getD si 0)))] [] (ctJ1_indexOfChar_4cfef aK aV si hsi v1 (imax v2 0) (imin v3 (nI (lenL.getD si 0))) hcl) (va_cwS 4 hts gJ1_indexOf_4cfef_J1_indexOfChar_4cfef rfl rfl rfl hdSJ1_indexOfChar_4cfef ⟨Nat.le_of_ble_eq_true rfl, Nat.le_of_ble_eq_true rfl⟩) dJ1_indexOf_4cfef_33 rfl rfl (Nat.le_of_ble_eq_true rfl) rfl rfl (by decide) (fun H locs hH => ?_)
      have hH : Hs D A s.heap ([]) H locs := hH
      have hrs := wp_s hf
      subst hrs
      exact RET H locs ls 36 dJ1_indexOf_4cfef_36 rfl hH
    · have hf := wp_f hc hf
      refine lv_iconst (v := (-1)) hx hb dJ1_indexOf_4cfef_27 (by decide) ?_
      have hrs := wp_s hf
      subst hrs
      exact RET H locs ls 28 dJ1_indexOf_4cfef_28 rfl hH
  · have hf := wp_t hc hf
    refine lv_iconst (v := (-1)) hx hb dJ1_indexOf_4cfef_7 (by decide) ?_
    have hrs := wp_s hf
    subst hrs
    exact RET H locs ls 8 dJ1_indexOf_4cfef_8 rfl hH

def fJ0_indexOf_7cf53 (si : Nat) (v1 : Int32) (v2 : Int32) : Option (Int32) :=
  Option.bind (fJ0_isLatin1_aae02 si) fun x1 =>
  if x1 = 0 then
    Option.bind (fJ0_length_8abf5 si) fun x2 =>
    none
  else
    Option.bind (fJ0_length_8abf5 si) fun x3 =>
    Option.bind (fJ1_indexOf_4cfef si v1 v2 x3) fun x4 =>
    some x4

def rmJ0_indexOf_7cf53 : Room := { frames := 2, cells := 0, slots := 0, locals := 48 }
theorem mbJ0_indexOf_7cf53_f9 : Cond.fieldLink RJ0 9 "java/lang/String" "value" "[B" ∈ wsJ0_indexOf_7cf53 := by decide +kernel
theorem hdVJ0_indexOf_7cf53 : yJ0_indexOf_7cf53.cls = RJ0 ∧ yJ0_indexOf_7cf53.cls ≠ "java/lang/invoke/MethodHandle" ∧ yJ0_indexOf_7cf53.cls ≠ "java/lang/invoke/VarHandle" ∧ (parseMethodDescriptor yJ0_indexOf_7cf53.desc).map (fun d => d.parameters.length) = some 2 := by decide +kernel
set_option maxHeartbeats 4000000 in
set_option maxRecDepth 100000 in
theorem ctJ0_indexOf_7cf53 {l : Launch} {D : va_G} {cI cJ cQ : ClassId} (aK aV : Nat → Nat)   (si : Nat) (hsi : si < 7) (v1 : Int32) (v2 : Int32) {res : Int32} (h : fJ0_indexOf_7cf53 si v1 v2 = some res) : CtIT l D cI cJ cQ aK aV yJ0_indexOf_7cf53 wsJ0_indexOf_7cf53 rmJ0_indexOf_7cf53 [.ref (aK si), .int v1, .int v2] ([]) res ([]) := by
  refine ctIT_of .int (cc := cJ0_indexOf_7cf53) (maxL := 3) (by decide) rfl (Nat.le_of_ble_eq_true rfl) ?_
  intro p e s m args below meth c A Q ls F hK hT hA RET hH hl
  obtain ⟨hx, hb, hml, hown, hts⟩ := id F
  have hl : lv_has ls 3 [(0, .ref (aK si)), (1, .int v1), (2, .int v2)] := hl
  have hf : wpO (fJ0_indexOf_7cf53 si v1 v2) (fun v => v = res) := ⟨_, h, rfl⟩
  obtain ⟨H, eH⟩ : ∃ H, H = s.heap := ⟨_, rfl⟩
  obtain ⟨locs, eL⟩ : ∃ locs : List Loc, locs = [] := ⟨_, rfl⟩
  have hH : Hs D A s.heap ([]) H locs := by rw [eH, eL]; exact hH
  rw [← eL]
  suffices hgo : W p l e rmJ0_indexOf_7cf53 s m args below meth c H locs 0 0 Q (F0 m 0 ls []) by rw [eH] at hgo; exact hgo
  clear eH eL
  refine lv_aload_n hx hb dJ0_indexOf_7cf53_0 rfl (lv_at hl 0 rfl) ?_
  obtain ⟨x1, hcl, hf⟩ := wp_b hf
  refine k_ViT F hK hT hH hA hl.1 ⟨Nat.zero_le _, Nat.zero_le _⟩ [] [] [] (ctJ0_isLatin1_aae02 aK aV si hsi hcl) (cwV 0 hts gJ0_indexOf_7cf53_J0_isLatin1_aae02 rfl rfl rfl hdVJ0_isLatin1_aae02 ⟨Nat.le_of_ble_eq_true rfl, Nat.le_of_ble_eq_true rfl⟩) dJ0_indexOf_7cf53_1 (vk_recv hT.1 hsi hH.2.2) rfl rfl (Nat.le_of_ble_eq_true rfl) rfl rfl (by decide) (fun H locs hH => ?_)
  have hH : Hs D A s.heap ([]) H locs := hH
  refine lv_if_eq (tgt := 23) hx hb dJ0_indexOf_7cf53_4 (by decide) (fun hc => ?_) (fun hc => ?_)
  · have hf := wp_t hc hf
    refine lv_aload_n hx hb dJ0_indexOf_7cf53_23 rfl (lv_at hl 0 rfl) ?_
    refine vk_getf hx hb (hT.1.1 si hsi).2.2.1 hH.2.2 hown (hts _ mbJ0_indexOf_7cf53_f9) (fun _ h => h) dJ0_indexOf_7cf53_24 ?_
    refine lv_iload_n hx hb dJ0_indexOf_7cf53_27 rfl (lv_at hl 1 rfl) ?_
    refine lv_iload_n hx hb dJ0_indexOf_7cf53_28 rfl (lv_at hl 2 rfl) ?_
    refine lv_aload_n hx hb dJ0_indexOf_7cf53_29 rfl (lv_at hl 0 rfl) ?_
    obtain ⟨x2, hcl, hf⟩ := wp_b hf
    refine k_ViT F hK hT hH hA hl.1 ⟨Nat.zero_le _, Nat.zero_le _⟩ [] [] [.int v2, .int v1, .ref (aV si)] (ctJ0_length_8abf5 aK aV si hsi hcl) (cwV 0 hts gJ0_indexOf_7cf53_J0_length_8abf5 rfl rfl rfl hdVJ0_length_8abf5 ⟨Nat.le_of_ble_eq_true rfl, Nat.le_of_ble_eq_true rfl⟩) dJ0_indexOf_7cf53_30 (vk_recv hT.1 hsi hH.2.2) rfl rfl (Nat.le_of_ble_eq_true rfl) rfl rfl (by decide) (fun H locs hH => ?_)
    have hH : Hs D A s.heap ([]) H locs := hH
    exact (wp_0 hf).elim
  · have hf := wp_f hc hf
    refine lv_aload_n hx hb dJ0_indexOf_7cf53_7 rfl (lv_at hl 0 rfl) ?_
    refine vk_getf hx hb (hT.1.1 si hsi).2.2.1 hH.2.2 hown (hts _ mbJ0_indexOf_7cf53_f9) (fun _ h => h) dJ0_indexOf_7cf53_8 ?_
    refine lv_iload_n hx hb dJ0_indexOf_7cf53_11 rfl (lv_at hl 1 rfl) ?_
    refine lv_iload_n hx hb dJ0_indexOf_7cf53_12 rfl (lv_at hl 2 rfl) ?_
    refine lv_aload_n hx hb dJ0_indexOf_7cf53_13 rfl (lv_at hl 0 rfl) ?_
    obtain ⟨x3, hcl, hf⟩ := wp_b hf
    refine k_ViT F hK hT hH hA hl.1 ⟨Nat.zero_le _, Nat.zero_le _⟩ [] [] [.int v2, .int v1, .ref (aV si)] (ctJ0_length_8abf5 aK aV si hsi hcl) (cwV 0 hts gJ0_indexOf_7cf53_J0_length_8abf5 rfl rfl rfl hdVJ0_length_8abf5 ⟨Nat.le_of_ble_eq_true rfl, Nat.le_of_ble_eq_true rfl⟩) dJ0_indexOf_7cf53_14 (vk_recv hT.1 hsi hH.2.2) rfl rfl (Nat.le_of_ble_eq_true rfl) rfl rfl (by decide) (fun H locs hH => ?_)
    have hH : Hs D A s.heap ([]) H locs := hH
    obtain ⟨x4, hcl, hf⟩ := wp_b hf
    refine k_SiT F hK hT hH hA hl.1 ⟨Nat.zero_le _, Nat.zero_le _⟩ [] [.ref (aV si), .int v1, .int v2, .int x3] [] (ctJ1_indexOf_4cfef aK aV si hsi v1 v2 x3 hcl) (va_cwS 4 hts gJ0_indexOf_7cf53_J1_indexOf_4cfef rfl rfl rfl hdSJ1_indexOf_4cfef ⟨Nat.le_of_ble_eq_true rfl, Nat.le_of_ble_eq_true rfl⟩) dJ0_indexOf_7cf53_17 rfl rfl (Nat.le_of_ble_eq_true rfl) rfl rfl (by decide) (fun H locs hH => ?_)
    have hH : Hs D A s.heap ([]) H locs := hH
    refine lv_goto (tgt := 36) hx hb dJ0_indexOf_7cf53_20 (by decide) ?_
    have hrs := wp_s hf
    subst hrs
    exact RET H locs ls 36 dJ0_indexOf_7cf53_36 rfl hH

def fJ0_indexOf_0f7a4 (si : Nat) (v1 : Int32) : Option (Int32) :=
  Option.bind (fJ0_indexOf_7cf53 si v1 0) fun x1 =>
  some x1

def rmJ0_indexOf_0f7a4 : Room := { frames := 3, cells := 0, slots := 0, locals := 70 }
theorem hdVJ0_indexOf_0f7a4 : yJ0_indexOf_0f7a4.cls = RJ0 ∧ yJ0_indexOf_0f7a4.cls ≠ "java/lang/invoke/MethodHandle" ∧ yJ0_indexOf_0f7a4.cls ≠ "java/lang/invoke/VarHandle" ∧ (parseMethodDescriptor yJ0_indexOf_0f7a4.desc).map (fun d => d.parameters.length) = some 1 := by decide +kernel
set_option maxHeartbeats 4000000 in
set_option maxRecDepth 100000 in
theorem ctJ0_indexOf_0f7a4 {l : Launch} {D : va_G} {cI cJ cQ : ClassId} (aK aV : Nat → Nat)   (si : Nat) (hsi : si < 7) (v1 : Int32) {res : Int32} (h : fJ0_indexOf_0f7a4 si v1 = some res) : CtIT l D cI cJ cQ aK aV yJ0_indexOf_0f7a4 wsJ0_indexOf_0f7a4 rmJ0_indexOf_0f7a4 [.ref (aK si), .int v1] ([]) res ([]) := by
  refine ctIT_of .int (cc := cJ0_indexOf_0f7a4) (maxL := 2) (by decide) rfl (Nat.le_of_ble_eq_true rfl) ?_
  intro p e s m args below meth c A Q ls F hK hT hA RET hH hl
  obtain ⟨hx, hb, hml, hown, hts⟩ := id F
  have hl : lv_has ls 2 [(0, .ref (aK si)), (1, .int v1)] := hl
  have hf : wpO (fJ0_indexOf_0f7a4 si v1) (fun v => v = res) := ⟨_, h, rfl⟩
  obtain ⟨H, eH⟩ : ∃ H, H = s.heap := ⟨_, rfl⟩
  obtain ⟨locs, eL⟩ : ∃ locs : List Loc, locs = [] := ⟨_, rfl⟩
  have hH : Hs D A s.heap ([]) H locs := by rw [eH, eL]; exact hH
  rw [← eL]
  suffices hgo : W p l e rmJ0_indexOf_0f7a4 s m args below meth c H locs 0 0 Q (F0 m 0 ls []) by rw [eH] at hgo; exact hgo
  clear eH eL
  refine lv_aload_n hx hb dJ0_indexOf_0f7a4_0 rfl (lv_at hl 0 rfl) ?_
  refine lv_iload_n hx hb dJ0_indexOf_0f7a4_1 rfl (lv_at hl 1 rfl) ?_
  refine lv_iconst (v := 0) hx hb dJ0_indexOf_0f7a4_2 (by decide) ?_
  obtain ⟨x1, hcl, hf⟩ := wp_b hf
  refine k_ViT F hK hT hH hA hl.1 ⟨Nat.zero_le _, Nat.zero_le _⟩ [] [.int v1, .int 0] [] (ctJ0_indexOf_7cf53 aK aV si hsi v1 0 hcl) (cwV 2 hts gJ0_indexOf_0f7a4_J0_indexOf_7cf53 rfl rfl rfl hdVJ0_indexOf_7cf53 ⟨Nat.le_of_ble_eq_true rfl, Nat.le_of_ble_eq_true rfl⟩) dJ0_indexOf_0f7a4_3 (vk_recv hT.1 hsi hH.2.2) rfl rfl (Nat.le_of_ble_eq_true rfl) rfl rfl (by decide) (fun H locs hH => ?_)
  have hH : Hs D A s.heap ([]) H locs := hH
  have hrs := wp_s hf
  subst hrs
  exact RET H locs ls 6 dJ0_indexOf_0f7a4_6 rfl hH

def fX1_kindAt (v1 : Int32) (yl : (Nat → Int32)) (yt : Int32) : Option (Int32) :=
  if yt ≤ v1 then
    some (-1)
  else
    if ob v1 96 then none else
    Option.bind (fJ0_indexOf_0f7a4 6 (ich (yl (Int32.toNatClampNeg v1)))) fun x1 =>
    some x1

def rmX1_kindAt : Room := { frames := 4, cells := 0, slots := 0, locals := 91 }
theorem mbX1_kindAt_f15 : Cond.fieldLink RX1 15 (TX1 1).1 (TX1 1).2.1 (TX1 1).2.2.1 ∈ wsX1_kindAt := by decide +kernel
theorem inX1_kindAt_X1 : ∀ w ∈ wsX10, w ∈ wsX1_kindAt := by decide +kernel
theorem mbX1_kindAt_f9 : Cond.fieldLink RX1 9 (TX1 0).1 (TX1 0).2.1 (TX1 0).2.2.1 ∈ wsX1_kindAt := by decide +kernel
theorem hdVX1_kindAt : yX1_kindAt.cls = RX1 ∧ yX1_kindAt.cls ≠ "java/lang/invoke/MethodHandle" ∧ yX1_kindAt.cls ≠ "java/lang/invoke/VarHandle" ∧ (parseMethodDescriptor yX1_kindAt.desc).map (fun d => d.parameters.length) = some 1 := by decide +kernel
set_option maxHeartbeats 4000000 in
set_option maxRecDepth 100000 in
theorem ctX1_kindAt {l : Launch} {D : va_G} {cI cJ cQ : ClassId} (aK aV : Nat → Nat) (ad : Nat → Nat) (yl : (Nat → Int32)) (yt : Int32) (v1 : Int32) {res : Int32} (h : fX1_kindAt v1 yl yt = some res) : CtIT l D cI cJ cQ aK aV yX1_kindAt wsX1_kindAt rmX1_kindAt [.ref (ad 0), .int v1] (wLt cI ad yl yt) res (wLt cI ad yl yt) := by
  refine ctIT_of .int (cc := cX1_kindAt) (maxL := 2) (by decide) rfl (Nat.le_of_ble_eq_true rfl) ?_
  intro p e s m args below meth c A Q ls F hK hT hA RET hH hl
  obtain ⟨hx, hb, hml, hown, hts⟩ := id F
  have hl : lv_has ls 2 [(0, .ref (ad 0)), (1, .int v1)] := hl
  have hf : wpO (fX1_kindAt v1 yl yt) (fun v => v = res) := ⟨_, h, rfl⟩
  obtain ⟨H, eH⟩ : ∃ H, H = s.heap := ⟨_, rfl⟩
  obtain ⟨locs, eL⟩ : ∃ locs : List Loc, locs = [] := ⟨_, rfl⟩
  have hH : Hs D A s.heap (wLt cI ad yl yt) H locs := by rw [eH, eL]; exact hH
  rw [← eL]
  suffices hgo : W p l e rmX1_kindAt s m args below meth c H locs 0 0 Q (F0 m 0 ls []) by rw [eH] at hgo; exact hgo
  clear eH eL
  refine lv_iload_n hx hb dX1_kindAt_0 rfl (lv_at hl 1 rfl) ?_
  refine lv_aload_n hx hb dX1_kindAt_1 rfl (lv_at hl 0 rfl) ?_
  refine k_get (v := .int yt) F hK hH 0 inX1_kindAt_X1 1 mbX1_kindAt_f15 dX1_kindAt_2 rfl rfl (by decide) rfl ?_
  refine lv_icmp_ge (tgt := 23) hx hb dX1_kindAt_5 (by decide) (fun hc => ?_) (fun hc => ?_)
  · have hf := wp_t hc hf
    refine lv_iconst (v := (-1)) hx hb dX1_kindAt_23 (by decide) ?_
    have hrs := wp_s hf
    subst hrs
    exact RET H locs ls 24 dX1_kindAt_24 rfl hH
  · have hf := wp_f hc hf
    refine va_ldcS hx hb hown (show vk_R RX1 148 "tshcbw" (aK 6) s from hT.2.1 6 (by decide)) dX1_kindAt_8 ?_
    refine lv_aload_n hx hb dX1_kindAt_10 rfl (lv_at hl 0 rfl) ?_
    refine k_get (v := .ref (ad 1)) F hK hH 0 inX1_kindAt_X1 0 mbX1_kindAt_f9 dX1_kindAt_11 rfl rfl (by decide) rfl ?_
    refine lv_iload_n hx hb dX1_kindAt_14 rfl (lv_at hl 1 rfl) ?_
    obtain ⟨hi, hf⟩ := wp_n hf
    refine k_iald (f := yl) (n := 96) F hK hH 1 dX1_kindAt_15 hi rfl ?_
    refine lv_i2c (v := ich (yl (Int32.toNatClampNeg v1))) hx hb dX1_kindAt_16 rfl ?_
    obtain ⟨x1, hcl, hf⟩ := wp_b hf
    refine k_ViT F hK hT hH hA hl.1 ⟨Nat.zero_le _, Nat.zero_le _⟩ [] [.int (ich (yl (Int32.toNatClampNeg v1)))] [] (ctJ0_indexOf_0f7a4 aK aV 6 (by decide) (ich (yl (Int32.toNatClampNeg v1))) hcl) (cwV 1 hts gX1_kindAt_J0_indexOf_0f7a4 rfl rfl rfl hdVJ0_indexOf_0f7a4 ⟨Nat.le_of_ble_eq_true rfl, Nat.le_of_ble_eq_true rfl⟩) dX1_kindAt_17 (vk_recv hT.1 (by decide) hH.2.2) rfl rfl (Nat.le_of_ble_eq_true rfl) rfl rfl (by decide) (fun H locs hH => ?_)
    have hH : Hs D A s.heap (wLt cI ad yl yt) H locs := hH
    refine lv_goto (tgt := 24) hx hb dX1_kindAt_20 (by decide) ?_
    have hrs := wp_s hf
    subst hrs
    exact RET H locs ls 24 dX1_kindAt_24 rfl hH

