def fJ6_bitCount_0f7a4 (v0 : Int32) : Option (Int32) :=
  some ((((((((v0 - ((iush v0 1) &&& 1431655765)) &&& 858993459) + ((iush (v0 - ((iush v0 1) &&& 1431655765)) 2) &&& 858993459)) + (iush (((v0 - ((iush v0 1) &&& 1431655765)) &&& 858993459) + ((iush (v0 - ((iush v0 1) &&& 1431655765)) 2) &&& 858993459)) 4)) &&& 252645135) + (iush (((((v0 - ((iush v0 1) &&& 1431655765)) &&& 858993459) + ((iush (v0 - ((iush v0 1) &&& 1431655765)) 2) &&& 858993459)) + (iush (((v0 - ((iush v0 1) &&& 1431655765)) &&& 858993459) + ((iush (v0 - ((iush v0 1) &&& 1431655765)) 2) &&& 858993459)) 4)) &&& 252645135) 8)) + (iush ((((((v0 - ((iush v0 1) &&& 1431655765)) &&& 858993459) + ((iush (v0 - ((iush v0 1) &&& 1431655765)) 2) &&& 858993459)) + (iush (((v0 - ((iush v0 1) &&& 1431655765)) &&& 858993459) + ((iush (v0 - ((iush v0 1) &&& 1431655765)) 2) &&& 858993459)) 4)) &&& 252645135) + (iush (((((v0 - ((iush v0 1) &&& 1431655765)) &&& 858993459) + ((iush (v0 - ((iush v0 1) &&& 1431655765)) 2) &&& 858993459)) + (iush (((v0 - ((iush v0 1) &&& 1431655765)) &&& 858993459) + ((iush (v0 - ((iush v0 1) &&& 1431655765)) 2) &&& 858993459)) 4)) &&& 252645135) 8)) 16)) &&& 63)

def rmJ6_bitCount_0f7a4 : Room := { frames := 0, cells := 0, slots := 0, locals := 0 }
theorem mbJ6_bitCount_0f7a4_c265 : Cond.constant RJ6 265 1431655765 ∈ wsJ6_bitCount_0f7a4 := by decide +kernel
theorem mbJ6_bitCount_0f7a4_c266 : Cond.constant RJ6 266 858993459 ∈ wsJ6_bitCount_0f7a4 := by decide +kernel
theorem mbJ6_bitCount_0f7a4_c267 : Cond.constant RJ6 267 252645135 ∈ wsJ6_bitCount_0f7a4 := by decide +kernel
theorem hdSJ6_bitCount_0f7a4 : yJ6_bitCount_0f7a4.cls ≠ "java/lang/invoke/MethodHandle" ∧ yJ6_bitCount_0f7a4.cls ≠ "java/lang/invoke/VarHandle" ∧ (parseMethodDescriptor yJ6_bitCount_0f7a4.desc).map (fun d => d.parameters.length) = some 1 := by decide +kernel
set_option maxHeartbeats 4000000 in
set_option maxRecDepth 100000 in
theorem ctJ6_bitCount_0f7a4 {l : Launch} {D : va_G} {cI cJ cQ : ClassId}   (v0 : Int32) {res : Int32} (h : fJ6_bitCount_0f7a4 v0 = some res) : CtI l D cI cJ cQ yJ6_bitCount_0f7a4 wsJ6_bitCount_0f7a4 rmJ6_bitCount_0f7a4 [.int v0] ([]) res ([]) := by
  refine ctI_of .int (cc := cJ6_bitCount_0f7a4) (maxL := 1) (by decide) rfl (Nat.le_of_ble_eq_true rfl) ?_
  intro p e s m args below meth c A Q ls F hK hA RET hH hl
  obtain ⟨hx, hb, hml, hown, hts⟩ := id F
  have hl : lv_has ls 1 [(0, .int v0)] := hl
  have hf : wpO (fJ6_bitCount_0f7a4 v0) (fun v => v = res) := ⟨_, h, rfl⟩
  obtain ⟨H, eH⟩ : ∃ H, H = s.heap := ⟨_, rfl⟩
  obtain ⟨locs, eL⟩ : ∃ locs : List Loc, locs = [] := ⟨_, rfl⟩
  have hH : Hs D A s.heap ([]) H locs := by rw [eH, eL]; exact hH
  rw [← eL]
  suffices hgo : W p l e rmJ6_bitCount_0f7a4 s m args below meth c H locs 0 0 Q (F0 m 0 ls []) by rw [eH] at hgo; exact hgo
  clear eH eL
  refine lv_iload_n hx hb dJ6_bitCount_0f7a4_0 rfl (lv_at hl 0 rfl) ?_
  refine lv_iload_n hx hb dJ6_bitCount_0f7a4_1 rfl (lv_at hl 0 rfl) ?_
  refine lv_iconst (v := 1) hx hb dJ6_bitCount_0f7a4_2 (by decide) ?_
  refine lv_iushr (v := iush v0 1) hx hb dJ6_bitCount_0f7a4_3 rfl ?_
  refine lv_ldcw (v := 1431655765) hx hb hown (hts _ mbJ6_bitCount_0f7a4_c265) dJ6_bitCount_0f7a4_4 ?_
  refine lv_iand hx hb dJ6_bitCount_0f7a4_7 ?_
  refine lv_isub hx hb dJ6_bitCount_0f7a4_8 ?_
  refine lv_istore_n (lv' := [(0, .int (v0 - ((iush v0 1) &&& 1431655765)))]) hx hb dJ6_bitCount_0f7a4_9 rfl hl (by decide) rfl (fun ls hl => ?_)
  refine lv_iload_n hx hb dJ6_bitCount_0f7a4_10 rfl (lv_at hl 0 rfl) ?_
  refine lv_ldcw (v := 858993459) hx hb hown (hts _ mbJ6_bitCount_0f7a4_c266) dJ6_bitCount_0f7a4_11 ?_
  refine lv_iand hx hb dJ6_bitCount_0f7a4_14 ?_
  refine lv_iload_n hx hb dJ6_bitCount_0f7a4_15 rfl (lv_at hl 0 rfl) ?_
  refine lv_iconst (v := 2) hx hb dJ6_bitCount_0f7a4_16 (by decide) ?_
  refine lv_iushr (v := iush (v0 - ((iush v0 1) &&& 1431655765)) 2) hx hb dJ6_bitCount_0f7a4_17 rfl ?_
  refine lv_ldcw (v := 858993459) hx hb hown (hts _ mbJ6_bitCount_0f7a4_c266) dJ6_bitCount_0f7a4_18 ?_
  refine lv_iand hx hb dJ6_bitCount_0f7a4_21 ?_
  refine lv_iadd hx hb dJ6_bitCount_0f7a4_22 ?_
  refine lv_istore_n (lv' := [(0, .int (((v0 - ((iush v0 1) &&& 1431655765)) &&& 858993459) + ((iush (v0 - ((iush v0 1) &&& 1431655765)) 2) &&& 858993459)))]) hx hb dJ6_bitCount_0f7a4_23 rfl hl (by decide) rfl (fun ls hl => ?_)
  refine lv_iload_n hx hb dJ6_bitCount_0f7a4_24 rfl (lv_at hl 0 rfl) ?_
  refine lv_iload_n hx hb dJ6_bitCount_0f7a4_25 rfl (lv_at hl 0 rfl) ?_
  refine lv_iconst (v := 4) hx hb dJ6_bitCount_0f7a4_26 (by decide) ?_
  refine lv_iushr (v := iush (((v0 - ((iush v0 1) &&& 1431655765)) &&& 858993459) + ((iush (v0 - ((iush v0 1) &&& 1431655765)) 2) &&& 858993459)) 4) hx hb dJ6_bitCount_0f7a4_27 rfl ?_
  refine lv_iadd hx hb dJ6_bitCount_0f7a4_28 ?_
  refine lv_ldcw (v := 252645135) hx hb hown (hts _ mbJ6_bitCount_0f7a4_c267) dJ6_bitCount_0f7a4_29 ?_
  refine lv_iand hx hb dJ6_bitCount_0f7a4_32 ?_
  refine lv_istore_n (lv' := [(0, .int (((((v0 - ((iush v0 1) &&& 1431655765)) &&& 858993459) + ((iush (v0 - ((iush v0 1) &&& 1431655765)) 2) &&& 858993459)) + (iush (((v0 - ((iush v0 1) &&& 1431655765)) &&& 858993459) + ((iush (v0 - ((iush v0 1) &&& 1431655765)) 2) &&& 858993459)) 4)) &&& 252645135))]) hx hb dJ6_bitCount_0f7a4_33 rfl hl (by decide) rfl (fun ls hl => ?_)
  refine lv_iload_n hx hb dJ6_bitCount_0f7a4_34 rfl (lv_at hl 0 rfl) ?_
  refine lv_iload_n hx hb dJ6_bitCount_0f7a4_35 rfl (lv_at hl 0 rfl) ?_
  refine lv_bipush (v := 8) hx hb dJ6_bitCount_0f7a4_36 (by decide) ?_
  refine lv_iushr (v := iush (((((v0 - ((iush v0 1) &&& 1431655765)) &&& 858993459) + ((iush (v0 - ((iush v0 1) &&& 1431655765)) 2) &&& 858993459)) + (iush (((v0 - ((iush v0 1) &&& 1431655765)) &&& 858993459) + ((iush (v0 - ((iush v0 1) &&& 1431655765)) 2) &&& 858993459)) 4)) &&& 252645135) 8) hx hb dJ6_bitCount_0f7a4_38 rfl ?_
  refine lv_iadd hx hb dJ6_bitCount_0f7a4_39 ?_
  refine lv_istore_n (lv' := [(0, .int ((((((v0 - ((iush v0 1) &&& 1431655765)) &&& 858993459) + ((iush (v0 - ((iush v0 1) &&& 1431655765)) 2) &&& 858993459)) + (iush (((v0 - ((iush v0 1) &&& 1431655765)) &&& 858993459) + ((iush (v0 - ((iush v0 1) &&& 1431655765)) 2) &&& 858993459)) 4)) &&& 252645135) + (iush (((((v0 - ((iush v0 1) &&& 1431655765)) &&& 858993459) + ((iush (v0 - ((iush v0 1) &&& 1431655765)) 2) &&& 858993459)) + (iush (((v0 - ((iush v0 1) &&& 1431655765)) &&& 858993459) + ((iush (v0 - ((iush v0 1) &&& 1431655765)) 2) &&& 858993459)) 4)) &&& 252645135) 8)))]) hx hb dJ6_bitCount_0f7a4_40 rfl hl (by decide) rfl (fun ls hl => ?_)
  refine lv_iload_n hx hb dJ6_bitCount_0f7a4_41 rfl (lv_at hl 0 rfl) ?_
  refine lv_iload_n hx hb dJ6_bitCount_0f7a4_42 rfl (lv_at hl 0 rfl) ?_
  refine lv_bipush (v := 16) hx hb dJ6_bitCount_0f7a4_43 (by decide) ?_
  refine lv_iushr (v := iush ((((((v0 - ((iush v0 1) &&& 1431655765)) &&& 858993459) + ((iush (v0 - ((iush v0 1) &&& 1431655765)) 2) &&& 858993459)) + (iush (((v0 - ((iush v0 1) &&& 1431655765)) &&& 858993459) + ((iush (v0 - ((iush v0 1) &&& 1431655765)) 2) &&& 858993459)) 4)) &&& 252645135) + (iush (((((v0 - ((iush v0 1) &&& 1431655765)) &&& 858993459) + ((iush (v0 - ((iush v0 1) &&& 1431655765)) 2) &&& 858993459)) + (iush (((v0 - ((iush v0 1) &&& 1431655765)) &&& 858993459) + ((iush (v0 - ((iush v0 1) &&& 1431655765)) 2) &&& 858993459)) 4)) &&& 252645135) 8)) 16) hx hb dJ6_bitCount_0f7a4_45 rfl ?_
  refine lv_iadd hx hb dJ6_bitCount_0f7a4_46 ?_
  refine lv_istore_n (lv' := [(0, .int (((((((v0 - ((iush v0 1) &&& 1431655765)) &&& 858993459) + ((iush (v0 - ((iush v0 1) &&& 1431655765)) 2) &&& 858993459)) + (iush (((v0 - ((iush v0 1) &&& 1431655765)) &&& 858993459) + ((iush (v0 - ((iush v0 1) &&& 1431655765)) 2) &&& 858993459)) 4)) &&& 252645135) + (iush (((((v0 - ((iush v0 1) &&& 1431655765)) &&& 858993459) + ((iush (v0 - ((iush v0 1) &&& 1431655765)) 2) &&& 858993459)) + (iush (((v0 - ((iush v0 1) &&& 1431655765)) &&& 858993459) + ((iush (v0 - ((iush v0 1) &&& 1431655765)) 2) &&& 858993459)) 4)) &&& 252645135) 8)) + (iush ((((((v0 - ((iush v0 1) &&& 1431655765)) &&& 858993459) + ((iush (v0 - ((iush v0 1) &&& 1431655765)) 2) &&& 858993459)) + (iush (((v0 - ((iush v0 1) &&& 1431655765)) &&& 858993459) + ((iush (v0 - ((iush v0 1) &&& 1431655765)) 2) &&& 858993459)) 4)) &&& 252645135) + (iush (((((v0 - ((iush v0 1) &&& 1431655765)) &&& 858993459) + ((iush (v0 - ((iush v0 1) &&& 1431655765)) 2) &&& 858993459)) + (iush (((v0 - ((iush v0 1) &&& 1431655765)) &&& 858993459) + ((iush (v0 - ((iush v0 1) &&& 1431655765)) 2) &&& 858993459)) 4)) &&& 252645135) 8)) 16)))]) hx hb dJ6_bitCount_0f7a4_47 rfl hl (by decide) rfl (fun ls hl => ?_)
  refine lv_iload_n hx hb dJ6_bitCount_0f7a4_48 rfl (lv_at hl 0 rfl) ?_
  refine lv_bipush (v := 63) hx hb dJ6_bitCount_0f7a4_49 (by decide) ?_
  refine lv_iand hx hb dJ6_bitCount_0f7a4_51 ?_
  have hrs := wp_s hf
  subst hrs
  exact RET H locs ls 52 dJ6_bitCount_0f7a4_52 rfl hH

def fX2_draw (v1 : Int32) (yd : Int32) : Option (Int32 × Int32) :=
  if v1 ≤ 0 then
    some (0, (yd * 1664525) + 1013904223)
  else
    if v1 = 0 then none else
    some (irem ((((yd * 1664525) + 1013904223) &&& 2147483647) / 256) v1, (yd * 1664525) + 1013904223)

def rmX2_draw : Room := { frames := 0, cells := 0, slots := 0, locals := 0 }
theorem mbX2_draw_f9 : Cond.fieldLink RX2 9 (TX2 0).1 (TX2 0).2.1 (TX2 0).2.2.1 ∈ wsX2_draw := by decide +kernel
theorem inX2_draw_X2 : ∀ w ∈ wsX20, w ∈ wsX2_draw := by decide +kernel
theorem mbX2_draw_c15 : Cond.constant RX2 15 1664525 ∈ wsX2_draw := by decide +kernel
theorem mbX2_draw_c16 : Cond.constant RX2 16 1013904223 ∈ wsX2_draw := by decide +kernel
theorem mbX2_draw_c17 : Cond.constant RX2 17 2147483647 ∈ wsX2_draw := by decide +kernel
theorem hdVX2_draw : yX2_draw.cls = RX2 ∧ yX2_draw.cls ≠ "java/lang/invoke/MethodHandle" ∧ yX2_draw.cls ≠ "java/lang/invoke/VarHandle" ∧ (parseMethodDescriptor yX2_draw.desc).map (fun d => d.parameters.length) = some 1 := by decide +kernel
set_option maxHeartbeats 4000000 in
set_option maxRecDepth 100000 in
theorem ctX2_draw {l : Launch} {D : va_G} {cI cJ cQ : ClassId} (ad : Nat → Nat) (yd : Int32) (v1 : Int32) {res : Int32 × Int32} (h : fX2_draw v1 yd = some res) : CtI l D cI cJ cQ yX2_draw wsX2_draw rmX2_draw [.ref (ad 0), .int v1] (wLo ad yd) res.1 (wLo ad res.2) := by
  refine ctI_of .int (cc := cX2_draw) (maxL := 3) (by decide) rfl (Nat.le_of_ble_eq_true rfl) ?_
  intro p e s m args below meth c A Q ls F hK hA RET hH hl
  obtain ⟨hx, hb, hml, hown, hts⟩ := id F
  have hl : lv_has ls 3 [(0, .ref (ad 0)), (1, .int v1)] := hl
  have hf : wpO (fX2_draw v1 yd) (fun v => v = res) := ⟨_, h, rfl⟩
  obtain ⟨H, eH⟩ : ∃ H, H = s.heap := ⟨_, rfl⟩
  obtain ⟨locs, eL⟩ : ∃ locs : List Loc, locs = [] := ⟨_, rfl⟩
  have hH : Hs D A s.heap (wLo ad yd) H locs := by rw [eH, eL]; exact hH
  rw [← eL]
  suffices hgo : W p l e rmX2_draw s m args below meth c H locs 0 0 Q (F0 m 0 ls []) by rw [eH] at hgo; exact hgo
  clear eH eL
  refine lv_aload_n hx hb dX2_draw_0 rfl (lv_at hl 0 rfl) ?_
  refine lv_aload_n hx hb dX2_draw_1 rfl (lv_at hl 0 rfl) ?_
  refine k_get (v := .int yd) F hK hH 0 inX2_draw_X2 0 mbX2_draw_f9 dX2_draw_2 rfl rfl (by decide) rfl ?_
  refine lv_ldc (v := 1664525) hx hb hown (hts _ mbX2_draw_c15) dX2_draw_5 ?_
  refine lv_imul hx hb dX2_draw_7 ?_
  refine lv_ldc (v := 1013904223) hx hb hown (hts _ mbX2_draw_c16) dX2_draw_8 ?_
  refine lv_iadd hx hb dX2_draw_10 ?_
  refine k_put (v := .int ((yd * 1664525) + 1013904223)) F hK hH 0 inX2_draw_X2 tyX2 tyX2_ok nmX2 0 mbX2_draw_f9 dX2_draw_11 rfl rfl (by decide) rfl rfl rfl (Nat.le_of_ble_eq_true rfl) (fun H locs hH => ?_)
  have hH : Hs D A s.heap (wLo ad ((yd * 1664525) + 1013904223)) H locs := hH
  refine lv_aload_n hx hb dX2_draw_14 rfl (lv_at hl 0 rfl) ?_
  refine k_get (v := .int ((yd * 1664525) + 1013904223)) F hK hH 0 inX2_draw_X2 0 mbX2_draw_f9 dX2_draw_15 rfl rfl (by decide) rfl ?_
  refine lv_ldc (v := 2147483647) hx hb hown (hts _ mbX2_draw_c17) dX2_draw_18 ?_
  refine lv_iand hx hb dX2_draw_20 ?_
  refine lv_sipush (v := 256) hx hb dX2_draw_21 (by decide) ?_
  refine lv_idiv hx hb dX2_draw_24 (by decide) ?_
  refine lv_istore_n (lv' := [(2, .int ((((yd * 1664525) + 1013904223) &&& 2147483647) / 256)), (0, .ref (ad 0)), (1, .int v1)]) hx hb dX2_draw_25 rfl hl (by decide) rfl (fun ls hl => ?_)
  refine lv_iload_n hx hb dX2_draw_26 rfl (lv_at hl 2 rfl) ?_
  refine lv_if_le (tgt := 36) hx hb dX2_draw_27 (by decide) (fun hc => ?_) (fun hc => ?_)
  · have hf := wp_t hc hf
    refine lv_iconst (v := 0) hx hb dX2_draw_36 (by decide) ?_
    have hrs := wp_s hf
    subst hrs
    exact RET H locs ls 37 dX2_draw_37 rfl hH
  · have hf := wp_f hc hf
    refine lv_iload_n hx hb dX2_draw_30 rfl (lv_at hl 0 rfl) ?_
    refine lv_iload_n hx hb dX2_draw_31 rfl (lv_at hl 2 rfl) ?_
    obtain ⟨hz, hf⟩ := wp_n hf
    refine lv_irem hx hb dX2_draw_32 hz ?_
    refine lv_goto (tgt := 37) hx hb dX2_draw_33 (by decide) ?_
    have hrs := wp_s hf
    subst hrs
    exact RET H locs ls 37 dX2_draw_37 rfl hH

def fX0_copyFrom (g : LandT) (g2 : LandT) : Option (LandT) :=
  some g2

def rmX0_copyFrom : Room := { frames := 1, cells := 0, slots := 0, locals := 60 }
theorem mbX0_copyFrom_f9 : Cond.fieldLink RX0 9 (TX0 0).1 (TX0 0).2.1 (TX0 0).2.2.1 ∈ wsX0_copyFrom := by decide +kernel
theorem inX0_copyFrom_X0 : ∀ w ∈ wsX00, w ∈ wsX0_copyFrom := by decide +kernel
theorem mbX0_copyFrom_m37 : Cond.methodLink RX0 37 arraycopyName ∈ wsX0_copyFrom := by decide +kernel
theorem mbX0_copyFrom_ac1 : Cond.native arraycopyName ∈ wsX0_copyFrom := by decide +kernel
theorem mbX0_copyFrom_ac2 : Cond.static arraycopyName ∈ wsX0_copyFrom := by decide +kernel
theorem mbX0_copyFrom_ac3 : Cond.initialized "java/lang/System" ∈ wsX0_copyFrom := by decide +kernel
theorem mbX0_copyFrom_f15 : Cond.fieldLink RX0 15 (TX0 1).1 (TX0 1).2.1 (TX0 1).2.2.1 ∈ wsX0_copyFrom := by decide +kernel
theorem mbX0_copyFrom_f18 : Cond.fieldLink RX0 18 (TX0 2).1 (TX0 2).2.1 (TX0 2).2.2.1 ∈ wsX0_copyFrom := by decide +kernel
theorem mbX0_copyFrom_f21 : Cond.fieldLink RX0 21 (TX0 3).1 (TX0 3).2.1 (TX0 3).2.2.1 ∈ wsX0_copyFrom := by decide +kernel
theorem mbX0_copyFrom_f24 : Cond.fieldLink RX0 24 (TX0 4).1 (TX0 4).2.1 (TX0 4).2.2.1 ∈ wsX0_copyFrom := by decide +kernel
theorem mbX0_copyFrom_f27 : Cond.fieldLink RX0 27 (TX0 5).1 (TX0 5).2.1 (TX0 5).2.2.1 ∈ wsX0_copyFrom := by decide +kernel
theorem mbX0_copyFrom_f30 : Cond.fieldLink RX0 30 (TX0 6).1 (TX0 6).2.1 (TX0 6).2.2.1 ∈ wsX0_copyFrom := by decide +kernel
theorem mbX0_copyFrom_f43 : Cond.fieldLink RX0 43 (TX0 7).1 (TX0 7).2.1 (TX0 7).2.2.1 ∈ wsX0_copyFrom := by decide +kernel
theorem mbX0_copyFrom_f46 : Cond.fieldLink RX0 46 (TX0 8).1 (TX0 8).2.1 (TX0 8).2.2.1 ∈ wsX0_copyFrom := by decide +kernel
theorem mbX0_copyFrom_f33 : Cond.fieldLink RX0 33 (TX0 9).1 (TX0 9).2.1 (TX0 9).2.2.1 ∈ wsX0_copyFrom := by decide +kernel
theorem mbX0_copyFrom_f49 : Cond.fieldLink RX0 49 (TX0 10).1 (TX0 10).2.1 (TX0 10).2.2.1 ∈ wsX0_copyFrom := by decide +kernel
theorem hdVX0_copyFrom : yX0_copyFrom.cls = RX0 ∧ yX0_copyFrom.cls ≠ "java/lang/invoke/MethodHandle" ∧ yX0_copyFrom.cls ≠ "java/lang/invoke/VarHandle" ∧ (parseMethodDescriptor yX0_copyFrom.desc).map (fun d => d.parameters.length) = some 1 := by decide +kernel
set_option maxHeartbeats 4000000 in
set_option maxRecDepth 100000 in
theorem ctX0_copyFrom {l : Launch} {D : va_G} {cI cJ cQ : ClassId} (ad : Nat → Nat) (bd : Nat → Nat) (g : LandT) (g2 : LandT)  {res : LandT} (h : fX0_copyFrom g g2 = some res) : CtV l D cI cJ cQ yX0_copyFrom wsX0_copyFrom rmX0_copyFrom [.ref (ad 0), .ref (bd 0)] (wLd cI ad g ++ wLd cI bd g2) (wLd cI ad res ++ wLd cI bd g2) := by
  refine ctV_of (cc := cX0_copyFrom) (maxL := 2) (by decide) rfl (Nat.le_of_ble_eq_true rfl) ?_
  intro p e s m args below meth c A Q ls F hK hA RET hH hl
  obtain ⟨hx, hb, hml, hown, hts⟩ := id F
  have hl : lv_has ls 2 [(0, .ref (ad 0)), (1, .ref (bd 0))] := hl
  have hf : wpO (fX0_copyFrom g g2) (fun v => v = res) := ⟨_, h, rfl⟩
  obtain ⟨H, eH⟩ : ∃ H, H = s.heap := ⟨_, rfl⟩
  obtain ⟨locs, eL⟩ : ∃ locs : List Loc, locs = [] := ⟨_, rfl⟩
  have hH : Hs D A s.heap (wLd cI ad g ++ wLd cI bd g2) H locs := by rw [eH, eL]; exact hH
  rw [← eL]
  suffices hgo : W p l e rmX0_copyFrom s m args below meth c H locs 0 0 Q (F0 m 0 ls []) by rw [eH] at hgo; exact hgo
  clear eH eL
  refine lv_aload_n hx hb dX0_copyFrom_0 rfl (lv_at hl 1 rfl) ?_
  refine k_get (v := .ref (bd 1)) F hK hH 8 inX0_copyFrom_X0 0 mbX0_copyFrom_f9 dX0_copyFrom_1 rfl rfl (by decide) rfl ?_
  refine lv_iconst (v := 0) hx hb dX0_copyFrom_4 (by decide) ?_
  refine lv_aload_n hx hb dX0_copyFrom_5 rfl (lv_at hl 0 rfl) ?_
  refine k_get (v := .ref (ad 1)) F hK hH 0 inX0_copyFrom_X0 0 mbX0_copyFrom_f9 dX0_copyFrom_6 rfl rfl (by decide) rfl ?_
  refine lv_iconst (v := 0) hx hb dX0_copyFrom_9 (by decide) ?_
  refine lv_bipush (v := 16) hx hb dX0_copyFrom_10 (by decide) ?_
  refine k_copy (N := 16) F hK hH hl.1 9 1 mbX0_copyFrom_m37 mbX0_copyFrom_ac1 mbX0_copyFrom_ac2 mbX0_copyFrom_ac3 (Nat.le_of_ble_eq_true rfl) (Nat.le_of_ble_eq_true rfl) dX0_copyFrom_12 (by decide) rfl rfl rfl (fun H locs hH => ?_)
  have hH : Hs D A s.heap (wLd cI ad (gH g2, gR g, gK g, gF g, gP g, gV g, gQ g, gN g, gD g, gE g, gT g) ++ wLd cI bd g2) H locs := hH
  refine lv_aload_n hx hb dX0_copyFrom_15 rfl (lv_at hl 1 rfl) ?_
  refine k_get (v := .ref (bd 2)) F hK hH 8 inX0_copyFrom_X0 1 mbX0_copyFrom_f15 dX0_copyFrom_16 rfl rfl (by decide) rfl ?_
  refine lv_iconst (v := 0) hx hb dX0_copyFrom_19 (by decide) ?_
  refine lv_aload_n hx hb dX0_copyFrom_20 rfl (lv_at hl 0 rfl) ?_
  refine k_get (v := .ref (ad 2)) F hK hH 0 inX0_copyFrom_X0 1 mbX0_copyFrom_f15 dX0_copyFrom_21 rfl rfl (by decide) rfl ?_
  refine lv_iconst (v := 0) hx hb dX0_copyFrom_24 (by decide) ?_
  refine lv_bipush (v := 16) hx hb dX0_copyFrom_25 (by decide) ?_
  refine k_copy (N := 16) F hK hH hl.1 10 2 mbX0_copyFrom_m37 mbX0_copyFrom_ac1 mbX0_copyFrom_ac2 mbX0_copyFrom_ac3 (Nat.le_of_ble_eq_true rfl) (Nat.le_of_ble_eq_true rfl) dX0_copyFrom_27 (by decide) rfl rfl rfl (fun H locs hH => ?_)
  have hH : Hs D A s.heap (wLd cI ad (gH g2, gR g2, gK g, gF g, gP g, gV g, gQ g, gN g, gD g, gE g, gT g) ++ wLd cI bd g2) H locs := hH
  refine lv_aload_n hx hb dX0_copyFrom_30 rfl (lv_at hl 1 rfl) ?_
  refine k_get (v := .ref (bd 3)) F hK hH 8 inX0_copyFrom_X0 2 mbX0_copyFrom_f18 dX0_copyFrom_31 rfl rfl (by decide) rfl ?_
  refine lv_iconst (v := 0) hx hb dX0_copyFrom_34 (by decide) ?_
  refine lv_aload_n hx hb dX0_copyFrom_35 rfl (lv_at hl 0 rfl) ?_
  refine k_get (v := .ref (ad 3)) F hK hH 0 inX0_copyFrom_X0 2 mbX0_copyFrom_f18 dX0_copyFrom_36 rfl rfl (by decide) rfl ?_
  refine lv_iconst (v := 0) hx hb dX0_copyFrom_39 (by decide) ?_
  refine lv_bipush (v := 7) hx hb dX0_copyFrom_40 (by decide) ?_
  refine k_copy (N := 7) F hK hH hl.1 11 3 mbX0_copyFrom_m37 mbX0_copyFrom_ac1 mbX0_copyFrom_ac2 mbX0_copyFrom_ac3 (Nat.le_of_ble_eq_true rfl) (Nat.le_of_ble_eq_true rfl) dX0_copyFrom_42 (by decide) rfl rfl rfl (fun H locs hH => ?_)
  have hH : Hs D A s.heap (wLd cI ad (gH g2, gR g2, gK g2, gF g, gP g, gV g, gQ g, gN g, gD g, gE g, gT g) ++ wLd cI bd g2) H locs := hH
  refine lv_aload_n hx hb dX0_copyFrom_45 rfl (lv_at hl 1 rfl) ?_
  refine k_get (v := .ref (bd 4)) F hK hH 8 inX0_copyFrom_X0 3 mbX0_copyFrom_f21 dX0_copyFrom_46 rfl rfl (by decide) rfl ?_
  refine lv_iconst (v := 0) hx hb dX0_copyFrom_49 (by decide) ?_
  refine lv_aload_n hx hb dX0_copyFrom_50 rfl (lv_at hl 0 rfl) ?_
  refine k_get (v := .ref (ad 4)) F hK hH 0 inX0_copyFrom_X0 3 mbX0_copyFrom_f21 dX0_copyFrom_51 rfl rfl (by decide) rfl ?_
  refine lv_iconst (v := 0) hx hb dX0_copyFrom_54 (by decide) ?_
  refine lv_bipush (v := 7) hx hb dX0_copyFrom_55 (by decide) ?_
  refine k_copy (N := 7) F hK hH hl.1 12 4 mbX0_copyFrom_m37 mbX0_copyFrom_ac1 mbX0_copyFrom_ac2 mbX0_copyFrom_ac3 (Nat.le_of_ble_eq_true rfl) (Nat.le_of_ble_eq_true rfl) dX0_copyFrom_57 (by decide) rfl rfl rfl (fun H locs hH => ?_)
  have hH : Hs D A s.heap (wLd cI ad (gH g2, gR g2, gK g2, gF g2, gP g, gV g, gQ g, gN g, gD g, gE g, gT g) ++ wLd cI bd g2) H locs := hH
  refine lv_aload_n hx hb dX0_copyFrom_60 rfl (lv_at hl 1 rfl) ?_
  refine k_get (v := .ref (bd 5)) F hK hH 8 inX0_copyFrom_X0 4 mbX0_copyFrom_f24 dX0_copyFrom_61 rfl rfl (by decide) rfl ?_
  refine lv_iconst (v := 0) hx hb dX0_copyFrom_64 (by decide) ?_
  refine lv_aload_n hx hb dX0_copyFrom_65 rfl (lv_at hl 0 rfl) ?_
  refine k_get (v := .ref (ad 5)) F hK hH 0 inX0_copyFrom_X0 4 mbX0_copyFrom_f24 dX0_copyFrom_66 rfl rfl (by decide) rfl ?_
  refine lv_iconst (v := 0) hx hb dX0_copyFrom_69 (by decide) ?_
  refine lv_bipush (v := 7) hx hb dX0_copyFrom_70 (by decide) ?_
  refine k_copy (N := 7) F hK hH hl.1 13 5 mbX0_copyFrom_m37 mbX0_copyFrom_ac1 mbX0_copyFrom_ac2 mbX0_copyFrom_ac3 (Nat.le_of_ble_eq_true rfl) (Nat.le_of_ble_eq_true rfl) dX0_copyFrom_72 (by decide) rfl rfl rfl (fun H locs hH => ?_)
  have hH : Hs D A s.heap (wLd cI ad (gH g2, gR g2, gK g2, gF g2, gP g2, gV g, gQ g, gN g, gD g, gE g, gT g) ++ wLd cI bd g2) H locs := hH
  refine lv_aload_n hx hb dX0_copyFrom_75 rfl (lv_at hl 1 rfl) ?_
  refine k_get (v := .ref (bd 6)) F hK hH 8 inX0_copyFrom_X0 5 mbX0_copyFrom_f27 dX0_copyFrom_76 rfl rfl (by decide) rfl ?_
  refine lv_iconst (v := 0) hx hb dX0_copyFrom_79 (by decide) ?_
  refine lv_aload_n hx hb dX0_copyFrom_80 rfl (lv_at hl 0 rfl) ?_
  refine k_get (v := .ref (ad 6)) F hK hH 0 inX0_copyFrom_X0 5 mbX0_copyFrom_f27 dX0_copyFrom_81 rfl rfl (by decide) rfl ?_
  refine lv_iconst (v := 0) hx hb dX0_copyFrom_84 (by decide) ?_
  refine lv_bipush (v := 6) hx hb dX0_copyFrom_85 (by decide) ?_
  refine k_copy (N := 6) F hK hH hl.1 14 6 mbX0_copyFrom_m37 mbX0_copyFrom_ac1 mbX0_copyFrom_ac2 mbX0_copyFrom_ac3 (Nat.le_of_ble_eq_true rfl) (Nat.le_of_ble_eq_true rfl) dX0_copyFrom_87 (by decide) rfl rfl rfl (fun H locs hH => ?_)
  have hH : Hs D A s.heap (wLd cI ad (gH g2, gR g2, gK g2, gF g2, gP g2, gV g2, gQ g, gN g, gD g, gE g, gT g) ++ wLd cI bd g2) H locs := hH
  refine lv_aload_n hx hb dX0_copyFrom_90 rfl (lv_at hl 1 rfl) ?_
  refine k_get (v := .ref (bd 7)) F hK hH 8 inX0_copyFrom_X0 6 mbX0_copyFrom_f30 dX0_copyFrom_91 rfl rfl (by decide) rfl ?_
  refine lv_iconst (v := 0) hx hb dX0_copyFrom_94 (by decide) ?_
  refine lv_aload_n hx hb dX0_copyFrom_95 rfl (lv_at hl 0 rfl) ?_
  refine k_get (v := .ref (ad 7)) F hK hH 0 inX0_copyFrom_X0 6 mbX0_copyFrom_f30 dX0_copyFrom_96 rfl rfl (by decide) rfl ?_
  refine lv_iconst (v := 0) hx hb dX0_copyFrom_99 (by decide) ?_
  refine lv_bipush (v := 6) hx hb dX0_copyFrom_100 (by decide) ?_
  refine k_copy (N := 6) F hK hH hl.1 15 7 mbX0_copyFrom_m37 mbX0_copyFrom_ac1 mbX0_copyFrom_ac2 mbX0_copyFrom_ac3 (Nat.le_of_ble_eq_true rfl) (Nat.le_of_ble_eq_true rfl) dX0_copyFrom_102 (by decide) rfl rfl rfl (fun H locs hH => ?_)
  have hH : Hs D A s.heap (wLd cI ad (gH g2, gR g2, gK g2, gF g2, gP g2, gV g2, gQ g2, gN g, gD g, gE g, gT g) ++ wLd cI bd g2) H locs := hH
  refine lv_aload_n hx hb dX0_copyFrom_105 rfl (lv_at hl 0 rfl) ?_
  refine lv_aload_n hx hb dX0_copyFrom_106 rfl (lv_at hl 1 rfl) ?_
  refine k_get (v := .int (gN g2)) F hK hH 8 inX0_copyFrom_X0 7 mbX0_copyFrom_f43 dX0_copyFrom_107 rfl rfl (by decide) rfl ?_
  refine k_put (v := .int (gN g2)) F hK hH 0 inX0_copyFrom_X0 tyX0 tyX0_ok nmX0 7 mbX0_copyFrom_f43 dX0_copyFrom_110 rfl rfl (by decide) rfl rfl rfl (Nat.le_of_ble_eq_true rfl) (fun H locs hH => ?_)
  have hH : Hs D A s.heap (wLd cI ad (gH g2, gR g2, gK g2, gF g2, gP g2, gV g2, gQ g2, gN g2, gD g, gE g, gT g) ++ wLd cI bd g2) H locs := hH
  refine lv_aload_n hx hb dX0_copyFrom_113 rfl (lv_at hl 0 rfl) ?_
  refine lv_aload_n hx hb dX0_copyFrom_114 rfl (lv_at hl 1 rfl) ?_
  refine k_get (v := .int (gD g2)) F hK hH 8 inX0_copyFrom_X0 8 mbX0_copyFrom_f46 dX0_copyFrom_115 rfl rfl (by decide) rfl ?_
  refine k_put (v := .int (gD g2)) F hK hH 0 inX0_copyFrom_X0 tyX0 tyX0_ok nmX0 8 mbX0_copyFrom_f46 dX0_copyFrom_118 rfl rfl (by decide) rfl rfl rfl (Nat.le_of_ble_eq_true rfl) (fun H locs hH => ?_)
  have hH : Hs D A s.heap (wLd cI ad (gH g2, gR g2, gK g2, gF g2, gP g2, gV g2, gQ g2, gN g2, gD g2, gE g, gT g) ++ wLd cI bd g2) H locs := hH
  refine lv_aload_n hx hb dX0_copyFrom_121 rfl (lv_at hl 0 rfl) ?_
  refine lv_aload_n hx hb dX0_copyFrom_122 rfl (lv_at hl 1 rfl) ?_
  refine k_get (v := .int (gE g2)) F hK hH 8 inX0_copyFrom_X0 9 mbX0_copyFrom_f33 dX0_copyFrom_123 rfl rfl (by decide) rfl ?_
  refine k_put (v := .int (gE g2)) F hK hH 0 inX0_copyFrom_X0 tyX0 tyX0_ok nmX0 9 mbX0_copyFrom_f33 dX0_copyFrom_126 rfl rfl (by decide) rfl rfl rfl (Nat.le_of_ble_eq_true rfl) (fun H locs hH => ?_)
  have hH : Hs D A s.heap (wLd cI ad (gH g2, gR g2, gK g2, gF g2, gP g2, gV g2, gQ g2, gN g2, gD g2, gE g2, gT g) ++ wLd cI bd g2) H locs := hH
  refine lv_aload_n hx hb dX0_copyFrom_129 rfl (lv_at hl 0 rfl) ?_
  refine lv_aload_n hx hb dX0_copyFrom_130 rfl (lv_at hl 1 rfl) ?_
  refine k_get (v := .int (gT g2)) F hK hH 8 inX0_copyFrom_X0 10 mbX0_copyFrom_f49 dX0_copyFrom_131 rfl rfl (by decide) rfl ?_
  refine k_put (v := .int (gT g2)) F hK hH 0 inX0_copyFrom_X0 tyX0 tyX0_ok nmX0 10 mbX0_copyFrom_f49 dX0_copyFrom_134 rfl rfl (by decide) rfl rfl rfl (Nat.le_of_ble_eq_true rfl) (fun H locs hH => ?_)
  have hH : Hs D A s.heap (wLd cI ad g2 ++ wLd cI bd g2) H locs := hH
  have hrs := wp_s hf
  subst hrs
  exact RET H locs ls 137 dX0_copyFrom_137 hH

def fX3_isWithin (v0 : Int32) (v1 : Int32) (v2 : Int32) : Option (Int32) :=
  if v0 < v1 then
    some 0
  else
    if v2 < v0 then
      some 0
    else
      some 1

def rmX3_isWithin : Room := { frames := 0, cells := 0, slots := 0, locals := 0 }
theorem hdSX3_isWithin : yX3_isWithin.cls ≠ "java/lang/invoke/MethodHandle" ∧ yX3_isWithin.cls ≠ "java/lang/invoke/VarHandle" ∧ (parseMethodDescriptor yX3_isWithin.desc).map (fun d => d.parameters.length) = some 3 := by decide +kernel
set_option maxHeartbeats 4000000 in
set_option maxRecDepth 100000 in
theorem ctX3_isWithin {l : Launch} {D : va_G} {cI cJ cQ : ClassId}   (v0 : Int32) (v1 : Int32) (v2 : Int32) {res : Int32} (h : fX3_isWithin v0 v1 v2 = some res) : CtI l D cI cJ cQ yX3_isWithin wsX3_isWithin rmX3_isWithin [.int v0, .int v1, .int v2] ([]) res ([]) := by
  refine ctI_of .boolean (cc := cX3_isWithin) (maxL := 3) (by decide) rfl (Nat.le_of_ble_eq_true rfl) ?_
  intro p e s m args below meth c A Q ls F hK hA RET hH hl
  obtain ⟨hx, hb, hml, hown, hts⟩ := id F
  have hl : lv_has ls 3 [(0, .int v0), (1, .int v1), (2, .int v2)] := hl
  have hf : wpO (fX3_isWithin v0 v1 v2) (fun v => v = res) := ⟨_, h, rfl⟩
  obtain ⟨H, eH⟩ : ∃ H, H = s.heap := ⟨_, rfl⟩
  obtain ⟨locs, eL⟩ : ∃ locs : List Loc, locs = [] := ⟨_, rfl⟩
  have hH : Hs D A s.heap ([]) H locs := by rw [eH, eL]; exact hH
  rw [← eL]
  suffices hgo : W p l e rmX3_isWithin s m args below meth c H locs 0 0 Q (F0 m 0 ls []) by rw [eH] at hgo; exact hgo
  clear eH eL
  refine lv_iload_n hx hb dX3_isWithin_0 rfl (lv_at hl 0 rfl) ?_
  refine lv_iload_n hx hb dX3_isWithin_1 rfl (lv_at hl 1 rfl) ?_
  refine lv_icmp_lt (tgt := 14) hx hb dX3_isWithin_2 (by decide) (fun hc => ?_) (fun hc => ?_)
  · have hf := wp_t hc hf
    refine lv_iconst (v := 0) hx hb dX3_isWithin_14 (by decide) ?_
    have hrs := wp_s hf
    subst hrs
    exact RET H locs ls 15 dX3_isWithin_15 (by show narrow .boolean (.int 0) = .int 0; rfl) hH
  · have hf := wp_f hc hf
    refine lv_iload_n hx hb dX3_isWithin_5 rfl (lv_at hl 0 rfl) ?_
    refine lv_iload_n hx hb dX3_isWithin_6 rfl (lv_at hl 2 rfl) ?_
    refine lv_icmp_gt (tgt := 14) hx hb dX3_isWithin_7 (by decide) (fun hc => ?_) (fun hc => ?_)
    · have hf := wp_t hc hf
      refine lv_iconst (v := 0) hx hb dX3_isWithin_14 (by decide) ?_
      have hrs := wp_s hf
      subst hrs
      exact RET H locs ls 15 dX3_isWithin_15 (by show narrow .boolean (.int 0) = .int 0; rfl) hH
    · have hf := wp_f hc hf
      refine lv_iconst (v := 1) hx hb dX3_isWithin_10 (by decide) ?_
      refine lv_goto (tgt := 15) hx hb dX3_isWithin_11 (by decide) ?_
      have hrs := wp_s hf
      subst hrs
      exact RET H locs ls 15 dX3_isWithin_15 (by show narrow .boolean (.int 1) = .int 1; rfl) hH

def fX0_hasThing (v1 : Int32) (g : LandT) : Option (Int32) :=
  Option.bind (fX3_isWithin v1 0 ((gN g) - 1)) fun x1 =>
  (bo x1).bind fun z2 =>
  some z2

def rmX0_hasThing : Room := { frames := 1, cells := 0, slots := 0, locals := 22 }
theorem mbX0_hasThing_f43 : Cond.fieldLink RX0 43 (TX0 7).1 (TX0 7).2.1 (TX0 7).2.2.1 ∈ wsX0_hasThing := by decide +kernel
theorem inX0_hasThing_X0 : ∀ w ∈ wsX00, w ∈ wsX0_hasThing := by decide +kernel
theorem mbX0_hasThing_iX3 : Cond.initialized RX3 ∈ wsX0_hasThing := by decide +kernel
theorem mbX0_hasThing_sX3_isWithin : Cond.static yX3_isWithin ∈ wsX0_hasThing := by decide +kernel
theorem hdVX0_hasThing : yX0_hasThing.cls = RX0 ∧ yX0_hasThing.cls ≠ "java/lang/invoke/MethodHandle" ∧ yX0_hasThing.cls ≠ "java/lang/invoke/VarHandle" ∧ (parseMethodDescriptor yX0_hasThing.desc).map (fun d => d.parameters.length) = some 1 := by decide +kernel
set_option maxHeartbeats 4000000 in
set_option maxRecDepth 100000 in
theorem ctX0_hasThing {l : Launch} {D : va_G} {cI cJ cQ : ClassId} (ad : Nat → Nat) (g : LandT) (v1 : Int32) {res : Int32} (h : fX0_hasThing v1 g = some res) : CtI l D cI cJ cQ yX0_hasThing wsX0_hasThing rmX0_hasThing [.ref (ad 0), .int v1] (wLd cI ad g) res (wLd cI ad g) := by
  refine ctI_of .boolean (cc := cX0_hasThing) (maxL := 2) (by decide) rfl (Nat.le_of_ble_eq_true rfl) ?_
  intro p e s m args below meth c A Q ls F hK hA RET hH hl
  obtain ⟨hx, hb, hml, hown, hts⟩ := id F
  have hl : lv_has ls 2 [(0, .ref (ad 0)), (1, .int v1)] := hl
  have hf : wpO (fX0_hasThing v1 g) (fun v => v = res) := ⟨_, h, rfl⟩
  obtain ⟨H, eH⟩ : ∃ H, H = s.heap := ⟨_, rfl⟩
  obtain ⟨locs, eL⟩ : ∃ locs : List Loc, locs = [] := ⟨_, rfl⟩
  have hH : Hs D A s.heap (wLd cI ad g) H locs := by rw [eH, eL]; exact hH
  rw [← eL]
  suffices hgo : W p l e rmX0_hasThing s m args below meth c H locs 0 0 Q (F0 m 0 ls []) by rw [eH] at hgo; exact hgo
  clear eH eL
  refine lv_iload_n hx hb dX0_hasThing_0 rfl (lv_at hl 1 rfl) ?_
  refine lv_iconst (v := 0) hx hb dX0_hasThing_1 (by decide) ?_
  refine lv_aload_n hx hb dX0_hasThing_2 rfl (lv_at hl 0 rfl) ?_
  refine k_get (v := .int (gN g)) F hK hH 0 inX0_hasThing_X0 7 mbX0_hasThing_f43 dX0_hasThing_3 rfl rfl (by decide) rfl ?_
  refine lv_iconst (v := 1) hx hb dX0_hasThing_6 (by decide) ?_
  refine lv_isub hx hb dX0_hasThing_7 ?_
  obtain ⟨x1, hcl, hf⟩ := wp_b hf
  refine k_Ni F hK hH hA hl.1 ⟨Nat.zero_le _, Nat.zero_le _⟩ [] [.int v1, .int 0, .int ((gN g) - 1)] [] (ctX3_isWithin v1 0 ((gN g) - 1) hcl) ⟨va_cnB (host := "LawFromTheTree") 3 hts gX0_hasThing_X3_isWithin_n52 rfl rfl rfl hK.2.1 (hts _ mbX0_hasThing_iX3) hdSX3_isWithin ⟨Nat.le_of_ble_eq_true rfl, Nat.le_of_ble_eq_true rfl⟩, hts _ mbX0_hasThing_sX3_isWithin, trivial⟩ dX0_hasThing_8 rfl rfl (Nat.le_of_ble_eq_true rfl) rfl rfl (by decide) (fun H locs hH => ?_)
  have hH : Hs D A s.heap (wLd cI ad g) H locs := hH
  obtain ⟨z2, hbo, hf⟩ := wp_b hf
  obtain ⟨hbe, hnb⟩ := bo_narrow hbo
  rw [hbe] at hf
  have hrs := wp_s hf
  subst hrs
  exact RET H locs ls 11 dX0_hasThing_11 hnb hH

def fX0_isHidden (v1 : Int32) (g : LandT) : Option (Int32) :=
  if (((gD g) >>> (v1 &&& 31)) &&& 1) = 1 then
    some 1
  else
    some 0

def rmX0_isHidden : Room := { frames := 0, cells := 0, slots := 0, locals := 0 }
theorem mbX0_isHidden_f46 : Cond.fieldLink RX0 46 (TX0 8).1 (TX0 8).2.1 (TX0 8).2.2.1 ∈ wsX0_isHidden := by decide +kernel
theorem inX0_isHidden_X0 : ∀ w ∈ wsX00, w ∈ wsX0_isHidden := by decide +kernel
theorem hdVX0_isHidden : yX0_isHidden.cls = RX0 ∧ yX0_isHidden.cls ≠ "java/lang/invoke/MethodHandle" ∧ yX0_isHidden.cls ≠ "java/lang/invoke/VarHandle" ∧ (parseMethodDescriptor yX0_isHidden.desc).map (fun d => d.parameters.length) = some 1 := by decide +kernel
set_option maxHeartbeats 4000000 in
set_option maxRecDepth 100000 in
theorem ctX0_isHidden {l : Launch} {D : va_G} {cI cJ cQ : ClassId} (ad : Nat → Nat) (g : LandT) (v1 : Int32) {res : Int32} (h : fX0_isHidden v1 g = some res) : CtI l D cI cJ cQ yX0_isHidden wsX0_isHidden rmX0_isHidden [.ref (ad 0), .int v1] (wLd cI ad g) res (wLd cI ad g) := by
  refine ctI_of .boolean (cc := cX0_isHidden) (maxL := 2) (by decide) rfl (Nat.le_of_ble_eq_true rfl) ?_
  intro p e s m args below meth c A Q ls F hK hA RET hH hl
  obtain ⟨hx, hb, hml, hown, hts⟩ := id F
  have hl : lv_has ls 2 [(0, .ref (ad 0)), (1, .int v1)] := hl
  have hf : wpO (fX0_isHidden v1 g) (fun v => v = res) := ⟨_, h, rfl⟩
  obtain ⟨H, eH⟩ : ∃ H, H = s.heap := ⟨_, rfl⟩
  obtain ⟨locs, eL⟩ : ∃ locs : List Loc, locs = [] := ⟨_, rfl⟩
  have hH : Hs D A s.heap (wLd cI ad g) H locs := by rw [eH, eL]; exact hH
  rw [← eL]
  suffices hgo : W p l e rmX0_isHidden s m args below meth c H locs 0 0 Q (F0 m 0 ls []) by rw [eH] at hgo; exact hgo
  clear eH eL
  refine lv_aload_n hx hb dX0_isHidden_0 rfl (lv_at hl 0 rfl) ?_
  refine k_get (v := .int (gD g)) F hK hH 0 inX0_isHidden_X0 8 mbX0_isHidden_f46 dX0_isHidden_1 rfl rfl (by decide) rfl ?_
  refine lv_iload_n hx hb dX0_isHidden_4 rfl (lv_at hl 1 rfl) ?_
  refine lv_ishr hx hb dX0_isHidden_5 ?_
  refine lv_iconst (v := 1) hx hb dX0_isHidden_6 (by decide) ?_
  refine lv_iand hx hb dX0_isHidden_7 ?_
  refine lv_iconst (v := 1) hx hb dX0_isHidden_8 (by decide) ?_
  refine lv_icmp_ne (tgt := 16) hx hb dX0_isHidden_9 (by decide) (fun hc => ?_) (fun hc => ?_)
  · have hf := wp_f hc hf
    refine lv_iconst (v := 0) hx hb dX0_isHidden_16 (by decide) ?_
    have hrs := wp_s hf
    subst hrs
    exact RET H locs ls 17 dX0_isHidden_17 (by show narrow .boolean (.int 0) = .int 0; rfl) hH
  · have hf := wp_t hc hf
    refine lv_iconst (v := 1) hx hb dX0_isHidden_12 (by decide) ?_
    refine lv_goto (tgt := 17) hx hb dX0_isHidden_13 (by decide) ?_
    have hrs := wp_s hf
    subst hrs
    exact RET H locs ls 17 dX0_isHidden_17 (by show narrow .boolean (.int 1) = .int 1; rfl) hH

def fX0_turnHidden (v1 : Int32) (g : LandT) : Option (LandT) :=
  some (gH g, gR g, gK g, gF g, gP g, gV g, gQ g, gN g, (gD g) ^^^ ((1 : Int32) <<< (v1 &&& 31)), gE g, gT g)

def rmX0_turnHidden : Room := { frames := 0, cells := 0, slots := 0, locals := 0 }
theorem mbX0_turnHidden_f46 : Cond.fieldLink RX0 46 (TX0 8).1 (TX0 8).2.1 (TX0 8).2.2.1 ∈ wsX0_turnHidden := by decide +kernel
theorem inX0_turnHidden_X0 : ∀ w ∈ wsX00, w ∈ wsX0_turnHidden := by decide +kernel
theorem hdVX0_turnHidden : yX0_turnHidden.cls = RX0 ∧ yX0_turnHidden.cls ≠ "java/lang/invoke/MethodHandle" ∧ yX0_turnHidden.cls ≠ "java/lang/invoke/VarHandle" ∧ (parseMethodDescriptor yX0_turnHidden.desc).map (fun d => d.parameters.length) = some 1 := by decide +kernel
set_option maxHeartbeats 4000000 in
set_option maxRecDepth 100000 in
theorem ctX0_turnHidden {l : Launch} {D : va_G} {cI cJ cQ : ClassId} (ad : Nat → Nat) (g : LandT) (v1 : Int32) {res : LandT} (h : fX0_turnHidden v1 g = some res) : CtV l D cI cJ cQ yX0_turnHidden wsX0_turnHidden rmX0_turnHidden [.ref (ad 0), .int v1] (wLd cI ad g) (wLd cI ad res) := by
  refine ctV_of (cc := cX0_turnHidden) (maxL := 2) (by decide) rfl (Nat.le_of_ble_eq_true rfl) ?_
  intro p e s m args below meth c A Q ls F hK hA RET hH hl
  obtain ⟨hx, hb, hml, hown, hts⟩ := id F
  have hl : lv_has ls 2 [(0, .ref (ad 0)), (1, .int v1)] := hl
  have hf : wpO (fX0_turnHidden v1 g) (fun v => v = res) := ⟨_, h, rfl⟩
  obtain ⟨H, eH⟩ : ∃ H, H = s.heap := ⟨_, rfl⟩
  obtain ⟨locs, eL⟩ : ∃ locs : List Loc, locs = [] := ⟨_, rfl⟩
  have hH : Hs D A s.heap (wLd cI ad g) H locs := by rw [eH, eL]; exact hH
  rw [← eL]
  suffices hgo : W p l e rmX0_turnHidden s m args below meth c H locs 0 0 Q (F0 m 0 ls []) by rw [eH] at hgo; exact hgo
  clear eH eL
  refine lv_aload_n hx hb dX0_turnHidden_0 rfl (lv_at hl 0 rfl) ?_
  refine lv_dup hx hb dX0_turnHidden_1 rfl ?_
  refine k_get (v := .int (gD g)) F hK hH 0 inX0_turnHidden_X0 8 mbX0_turnHidden_f46 dX0_turnHidden_2 rfl rfl (by decide) rfl ?_
  refine lv_iconst (v := 1) hx hb dX0_turnHidden_5 (by decide) ?_
  refine lv_iload_n hx hb dX0_turnHidden_6 rfl (lv_at hl 1 rfl) ?_
  refine lv_ishl hx hb dX0_turnHidden_7 ?_
  refine lv_ixor hx hb dX0_turnHidden_8 ?_
  refine k_put (v := .int ((gD g) ^^^ ((1 : Int32) <<< (v1 &&& 31)))) F hK hH 0 inX0_turnHidden_X0 tyX0 tyX0_ok nmX0 8 mbX0_turnHidden_f46 dX0_turnHidden_9 rfl rfl (by decide) rfl rfl rfl (Nat.le_of_ble_eq_true rfl) (fun H locs hH => ?_)
  have hH : Hs D A s.heap (wLd cI ad (gH g, gR g, gK g, gF g, gP g, gV g, gQ g, gN g, (gD g) ^^^ ((1 : Int32) <<< (v1 &&& 31)), gE g, gT g)) H locs := hH
  have hrs := wp_s hf
  subst hrs
  exact RET H locs ls 12 dX0_turnHidden_12 hH

def bX0_setHeight_11  : (Int32 × LandT) → Option ((Int32 × LandT) ⊕ (LandT)) := fun ((t1, t2) : Int32 × LandT) =>
  if (16 : Int32) ≤ t1 then
    some (.inr t2)
  else
    if ob (t1 - 1) 16 then none else
    if ob (t1 - 1) 16 then none else
    if ob t1 16 then none else
    some (.inl (t1 + 1, (gH t2, upd (gR t2) (Int32.toNatClampNeg t1) (imax ((gR t2) (Int32.toNatClampNeg (t1 - 1))) ((gH t2) (Int32.toNatClampNeg (t1 - 1)))), gK t2, gF t2, gP t2, gV t2, gQ t2, gN t2, gD t2, gE t2, gT t2)))

def fX0_setHeight (v1 : Int32) (v2 : Int32) (g : LandT) : Option (LandT) :=
  if ob v1 16 then none else
  Option.bind (lp bX0_setHeight_11 fu (v1 + 1, (upd (gH g) (Int32.toNatClampNeg v1) v2, gR g, gK g, gF g, gP g, gV g, gQ g, gN g, gD g, gE g, gT g))) fun (t3 : LandT) =>
  some t3

def rmX0_setHeight : Room := { frames := 1, cells := 0, slots := 0, locals := 21 }
theorem mbX0_setHeight_f9 : Cond.fieldLink RX0 9 (TX0 0).1 (TX0 0).2.1 (TX0 0).2.2.1 ∈ wsX0_setHeight := by decide +kernel
theorem inX0_setHeight_X0 : ∀ w ∈ wsX00, w ∈ wsX0_setHeight := by decide +kernel
theorem mbX0_setHeight_f15 : Cond.fieldLink RX0 15 (TX0 1).1 (TX0 1).2.1 (TX0 1).2.2.1 ∈ wsX0_setHeight := by decide +kernel
theorem mbX0_setHeight_m56 : Cond.methodLink RX0 56 Lib.Math.max.name ∈ wsX0_setHeight := by decide +kernel
theorem mbX0_setHeight_max1 : Cond.static Lib.Math.max.name ∈ wsX0_setHeight := by decide +kernel
theorem mbX0_setHeight_max2 : Cond.initialized "java/lang/Math" ∈ wsX0_setHeight := by decide +kernel
theorem mbX0_setHeight_max3 : Cond.code Lib.Math.max.name Lib.Math.max.code 2 (some .int) ∈ wsX0_setHeight := by decide +kernel
theorem hdVX0_setHeight : yX0_setHeight.cls = RX0 ∧ yX0_setHeight.cls ≠ "java/lang/invoke/MethodHandle" ∧ yX0_setHeight.cls ≠ "java/lang/invoke/VarHandle" ∧ (parseMethodDescriptor yX0_setHeight.desc).map (fun d => d.parameters.length) = some 2 := by decide +kernel
set_option maxHeartbeats 4000000 in
set_option maxRecDepth 100000 in
theorem ctX0_setHeight {l : Launch} {D : va_G} {cI cJ cQ : ClassId} (ad : Nat → Nat) (g : LandT) (v1 : Int32) (v2 : Int32) {res : LandT} (h : fX0_setHeight v1 v2 g = some res) : CtV l D cI cJ cQ yX0_setHeight wsX0_setHeight rmX0_setHeight [.ref (ad 0), .int v1, .int v2] (wLd cI ad g) (wLd cI ad res) := by
  refine ctV_of (cc := cX0_setHeight) (maxL := 4) (by decide) rfl (Nat.le_of_ble_eq_true rfl) ?_
  intro p e s m args below meth c A Q ls F hK hA RET hH hl
  obtain ⟨hx, hb, hml, hown, hts⟩ := id F
  have hl : lv_has ls 4 [(0, .ref (ad 0)), (1, .int v1), (2, .int v2)] := hl
  have hf : wpO (fX0_setHeight v1 v2 g) (fun v => v = res) := ⟨_, h, rfl⟩
  obtain ⟨H, eH⟩ : ∃ H, H = s.heap := ⟨_, rfl⟩
  obtain ⟨locs, eL⟩ : ∃ locs : List Loc, locs = [] := ⟨_, rfl⟩
  have hH : Hs D A s.heap (wLd cI ad g) H locs := by rw [eH, eL]; exact hH
  rw [← eL]
  suffices hgo : W p l e rmX0_setHeight s m args below meth c H locs 0 0 Q (F0 m 0 ls []) by rw [eH] at hgo; exact hgo
  clear eH eL
  refine lv_aload_n hx hb dX0_setHeight_0 rfl (lv_at hl 0 rfl) ?_
  refine k_get (v := .ref (ad 1)) F hK hH 0 inX0_setHeight_X0 0 mbX0_setHeight_f9 dX0_setHeight_1 rfl rfl (by decide) rfl ?_
  refine lv_iload_n hx hb dX0_setHeight_4 rfl (lv_at hl 1 rfl) ?_
  refine lv_iload_n hx hb dX0_setHeight_5 rfl (lv_at hl 2 rfl) ?_
  obtain ⟨hi, hf⟩ := wp_n hf
  refine k_iast (f := gH g) (n := 16) F hK hH 1 dX0_setHeight_6 hi rfl (fun H locs hH => ?_)
  have hH : Hs D A s.heap (wLd cI ad (upd (gH g) (Int32.toNatClampNeg v1) v2, gR g, gK g, gF g, gP g, gV g, gQ g, gN g, gD g, gE g, gT g)) H locs := hH
  refine lv_iload_n hx hb dX0_setHeight_7 rfl (lv_at hl 1 rfl) ?_
  refine lv_iconst (v := 1) hx hb dX0_setHeight_8 (by decide) ?_
  refine lv_iadd hx hb dX0_setHeight_9 ?_
  refine lv_istore_n (lv' := [(3, .int (v1 + 1)), (0, .ref (ad 0)), (1, .int v1), (2, .int v2)]) hx hb dX0_setHeight_10 rfl hl (by decide) rfl (fun ls hl => ?_)
  have LP : ∀ (Φ : (LandT) → Prop), (∀ (t3 : LandT) (H : Heap) (locs : List Loc) (ls : Array Slot), Φ (t3) → Hs D A s.heap (wLd cI ad t3) H locs → lv_has ls 4 [] → W p l e rmX0_setHeight s m args below meth c H locs 0 0 Q (F0 m 48 ls [])) → ∀ (n : Nat) (t1 : Int32) (t2 : LandT) (H : Heap) (locs : List Loc) (ls : Array Slot), wpO (lp bX0_setHeight_11 n (t1, t2)) Φ → Hs D A s.heap (wLd cI ad t2) H locs → lv_has ls 4 [(0, .ref (ad 0)), (3, .int t1)] → W p l e rmX0_setHeight s m args below meth c H locs 0 0 Q (F0 m 11 ls []) := by
    intro Φ EX n
    induction n with
    | zero =>
      intro t1 t2 H locs ls hf hH hl
      exact (wp_l0 hf).elim
    | succ n ih =>
      intro t1 t2 H locs ls hf hH hl
      have hf := wp_l hf
      refine lv_iload_n hx hb dX0_setHeight_11 rfl (lv_at hl 1 rfl) ?_
      refine lv_bipush (v := 16) hx hb dX0_setHeight_12 (by decide) ?_
      refine lv_icmp_ge (tgt := 48) hx hb dX0_setHeight_14 (by decide) (fun hc => ?_) (fun hc => ?_)
      · have hf := wp_t hc hf
        have hw := wp_out hf
        exact EX _ _ _ _ hw hH (lv_sub hl [] rfl)
      · have hf := wp_f hc hf
        refine lv_aload_n hx hb dX0_setHeight_17 rfl (lv_at hl 0 rfl) ?_
        refine k_get (v := .ref (ad 2)) F hK hH 0 inX0_setHeight_X0 1 mbX0_setHeight_f15 dX0_setHeight_18 rfl rfl (by decide) rfl ?_
        refine lv_iload_n hx hb dX0_setHeight_21 rfl (lv_at hl 1 rfl) ?_
        refine lv_aload_n hx hb dX0_setHeight_22 rfl (lv_at hl 0 rfl) ?_
        refine k_get (v := .ref (ad 2)) F hK hH 0 inX0_setHeight_X0 1 mbX0_setHeight_f15 dX0_setHeight_23 rfl rfl (by decide) rfl ?_
        refine lv_iload_n hx hb dX0_setHeight_26 rfl (lv_at hl 1 rfl) ?_
        refine lv_iconst (v := 1) hx hb dX0_setHeight_27 (by decide) ?_
        refine lv_isub hx hb dX0_setHeight_28 ?_
        obtain ⟨hi, hf⟩ := wp_n hf
        refine k_iald (f := gR t2) (n := 16) F hK hH 2 dX0_setHeight_29 hi rfl ?_
        refine lv_aload_n hx hb dX0_setHeight_30 rfl (lv_at hl 0 rfl) ?_
        refine k_get (v := .ref (ad 1)) F hK hH 0 inX0_setHeight_X0 0 mbX0_setHeight_f9 dX0_setHeight_31 rfl rfl (by decide) rfl ?_
        refine lv_iload_n hx hb dX0_setHeight_34 rfl (lv_at hl 1 rfl) ?_
        refine lv_iconst (v := 1) hx hb dX0_setHeight_35 (by decide) ?_
        refine lv_isub hx hb dX0_setHeight_36 ?_
        obtain ⟨hi, hf⟩ := wp_n hf
        refine k_iald (f := gH t2) (n := 16) F hK hH 1 dX0_setHeight_37 hi rfl ?_
        refine k_max F hl.1 mbX0_setHeight_m56 mbX0_setHeight_max1 mbX0_setHeight_max2 mbX0_setHeight_max3 (Nat.le_of_ble_eq_true rfl) (Nat.le_of_ble_eq_true rfl) ⟨Nat.zero_le _, Nat.zero_le _⟩ dX0_setHeight_38 ?_
        refine W.eq (g2 := F0 m 41 ls [.int (imax ((gR t2) (Int32.toNatClampNeg (t1 - 1))) ((gH t2) (Int32.toNatClampNeg (t1 - 1)))), .int t1, .ref (ad 2)]) rfl ?_
        obtain ⟨hi, hf⟩ := wp_n hf
        refine k_iast (f := gR t2) (n := 16) F hK hH 2 dX0_setHeight_41 hi rfl (fun H locs hH => ?_)
        have hH : Hs D A s.heap (wLd cI ad (gH t2, upd (gR t2) (Int32.toNatClampNeg t1) (imax ((gR t2) (Int32.toNatClampNeg (t1 - 1))) ((gH t2) (Int32.toNatClampNeg (t1 - 1)))), gK t2, gF t2, gP t2, gV t2, gQ t2, gN t2, gD t2, gE t2, gT t2)) H locs := hH
        refine lv_iinc (v := t1 + 1) (lv' := [(3, .int (t1 + 1)), (0, .ref (ad 0))]) hx hb dX0_setHeight_42 hl (k := 1) rfl rfl (by decide) rfl (fun ls hl => ?_)
        refine lv_goto (tgt := 11) hx hb dX0_setHeight_45 (by decide) ?_
        have hw := wp_in hf
        exact ih _ _ _ _ _ hw hH (lv_sub hl [1, 0] rfl)
  refine LP _ (fun t3 H locs ls hf hH hl => ?_) fu _ _ _ _ _ (wp_bb hf) hH (lv_sub hl [1, 0] rfl)
  have hrs := wp_s hf
  subst hrs
  exact RET H locs ls 48 dX0_setHeight_48 hH

def fX0_addThing (v1 : Int32) (v2 : Int32) (v3 : Int32) (g : LandT) : Option (LandT) :=
  if ob (gN g) 7 then none else
  if ob (gN g) 7 then none else
  if ob (gN g) 7 then none else
  some (gH g, gR g, upd (gK g) (Int32.toNatClampNeg (gN g)) v1, upd (gF g) (Int32.toNatClampNeg (gN g)) v2, upd (gP g) (Int32.toNatClampNeg (gN g)) v3, gV g, gQ g, (gN g) + 1, gD g, gE g, gT g)

def rmX0_addThing : Room := { frames := 0, cells := 0, slots := 0, locals := 0 }
theorem mbX0_addThing_f18 : Cond.fieldLink RX0 18 (TX0 2).1 (TX0 2).2.1 (TX0 2).2.2.1 ∈ wsX0_addThing := by decide +kernel
theorem inX0_addThing_X0 : ∀ w ∈ wsX00, w ∈ wsX0_addThing := by decide +kernel
theorem mbX0_addThing_f43 : Cond.fieldLink RX0 43 (TX0 7).1 (TX0 7).2.1 (TX0 7).2.2.1 ∈ wsX0_addThing := by decide +kernel
theorem mbX0_addThing_f21 : Cond.fieldLink RX0 21 (TX0 3).1 (TX0 3).2.1 (TX0 3).2.2.1 ∈ wsX0_addThing := by decide +kernel
theorem mbX0_addThing_f24 : Cond.fieldLink RX0 24 (TX0 4).1 (TX0 4).2.1 (TX0 4).2.2.1 ∈ wsX0_addThing := by decide +kernel
theorem hdVX0_addThing : yX0_addThing.cls = RX0 ∧ yX0_addThing.cls ≠ "java/lang/invoke/MethodHandle" ∧ yX0_addThing.cls ≠ "java/lang/invoke/VarHandle" ∧ (parseMethodDescriptor yX0_addThing.desc).map (fun d => d.parameters.length) = some 3 := by decide +kernel
set_option maxHeartbeats 4000000 in
set_option maxRecDepth 100000 in
theorem ctX0_addThing {l : Launch} {D : va_G} {cI cJ cQ : ClassId} (ad : Nat → Nat) (g : LandT) (v1 : Int32) (v2 : Int32) (v3 : Int32) {res : LandT} (h : fX0_addThing v1 v2 v3 g = some res) : CtV l D cI cJ cQ yX0_addThing wsX0_addThing rmX0_addThing [.ref (ad 0), .int v1, .int v2, .int v3] (wLd cI ad g) (wLd cI ad res) := by
  refine ctV_of (cc := cX0_addThing) (maxL := 4) (by decide) rfl (Nat.le_of_ble_eq_true rfl) ?_
  intro p e s m args below meth c A Q ls F hK hA RET hH hl
  obtain ⟨hx, hb, hml, hown, hts⟩ := id F
  have hl : lv_has ls 4 [(0, .ref (ad 0)), (1, .int v1), (2, .int v2), (3, .int v3)] := hl
  have hf : wpO (fX0_addThing v1 v2 v3 g) (fun v => v = res) := ⟨_, h, rfl⟩
  obtain ⟨H, eH⟩ : ∃ H, H = s.heap := ⟨_, rfl⟩
  obtain ⟨locs, eL⟩ : ∃ locs : List Loc, locs = [] := ⟨_, rfl⟩
  have hH : Hs D A s.heap (wLd cI ad g) H locs := by rw [eH, eL]; exact hH
  rw [← eL]
  suffices hgo : W p l e rmX0_addThing s m args below meth c H locs 0 0 Q (F0 m 0 ls []) by rw [eH] at hgo; exact hgo
  clear eH eL
  refine lv_aload_n hx hb dX0_addThing_0 rfl (lv_at hl 0 rfl) ?_
  refine k_get (v := .ref (ad 3)) F hK hH 0 inX0_addThing_X0 2 mbX0_addThing_f18 dX0_addThing_1 rfl rfl (by decide) rfl ?_
  refine lv_aload_n hx hb dX0_addThing_4 rfl (lv_at hl 0 rfl) ?_
  refine k_get (v := .int (gN g)) F hK hH 0 inX0_addThing_X0 7 mbX0_addThing_f43 dX0_addThing_5 rfl rfl (by decide) rfl ?_
  refine lv_iload_n hx hb dX0_addThing_8 rfl (lv_at hl 1 rfl) ?_
  obtain ⟨hi, hf⟩ := wp_n hf
  refine k_iast (f := gK g) (n := 7) F hK hH 3 dX0_addThing_9 hi rfl (fun H locs hH => ?_)
  have hH : Hs D A s.heap (wLd cI ad (gH g, gR g, upd (gK g) (Int32.toNatClampNeg (gN g)) v1, gF g, gP g, gV g, gQ g, gN g, gD g, gE g, gT g)) H locs := hH
  refine lv_aload_n hx hb dX0_addThing_10 rfl (lv_at hl 0 rfl) ?_
  refine k_get (v := .ref (ad 4)) F hK hH 0 inX0_addThing_X0 3 mbX0_addThing_f21 dX0_addThing_11 rfl rfl (by decide) rfl ?_
  refine lv_aload_n hx hb dX0_addThing_14 rfl (lv_at hl 0 rfl) ?_
  refine k_get (v := .int (gN g)) F hK hH 0 inX0_addThing_X0 7 mbX0_addThing_f43 dX0_addThing_15 rfl rfl (by decide) rfl ?_
  refine lv_iload_n hx hb dX0_addThing_18 rfl (lv_at hl 2 rfl) ?_
  obtain ⟨hi, hf⟩ := wp_n hf
  refine k_iast (f := gF g) (n := 7) F hK hH 4 dX0_addThing_19 hi rfl (fun H locs hH => ?_)
  have hH : Hs D A s.heap (wLd cI ad (gH g, gR g, upd (gK g) (Int32.toNatClampNeg (gN g)) v1, upd (gF g) (Int32.toNatClampNeg (gN g)) v2, gP g, gV g, gQ g, gN g, gD g, gE g, gT g)) H locs := hH
  refine lv_aload_n hx hb dX0_addThing_20 rfl (lv_at hl 0 rfl) ?_
  refine k_get (v := .ref (ad 5)) F hK hH 0 inX0_addThing_X0 4 mbX0_addThing_f24 dX0_addThing_21 rfl rfl (by decide) rfl ?_
  refine lv_aload_n hx hb dX0_addThing_24 rfl (lv_at hl 0 rfl) ?_
  refine k_get (v := .int (gN g)) F hK hH 0 inX0_addThing_X0 7 mbX0_addThing_f43 dX0_addThing_25 rfl rfl (by decide) rfl ?_
  refine lv_iload_n hx hb dX0_addThing_28 rfl (lv_at hl 3 rfl) ?_
  obtain ⟨hi, hf⟩ := wp_n hf
  refine k_iast (f := gP g) (n := 7) F hK hH 5 dX0_addThing_29 hi rfl (fun H locs hH => ?_)
  have hH : Hs D A s.heap (wLd cI ad (gH g, gR g, upd (gK g) (Int32.toNatClampNeg (gN g)) v1, upd (gF g) (Int32.toNatClampNeg (gN g)) v2, upd (gP g) (Int32.toNatClampNeg (gN g)) v3, gV g, gQ g, gN g, gD g, gE g, gT g)) H locs := hH
  refine lv_aload_n hx hb dX0_addThing_30 rfl (lv_at hl 0 rfl) ?_
  refine lv_dup hx hb dX0_addThing_31 rfl ?_
  refine k_get (v := .int (gN g)) F hK hH 0 inX0_addThing_X0 7 mbX0_addThing_f43 dX0_addThing_32 rfl rfl (by decide) rfl ?_
  refine lv_iconst (v := 1) hx hb dX0_addThing_35 (by decide) ?_
  refine lv_iadd hx hb dX0_addThing_36 ?_
  refine k_put (v := .int ((gN g) + 1)) F hK hH 0 inX0_addThing_X0 tyX0 tyX0_ok nmX0 7 mbX0_addThing_f43 dX0_addThing_37 rfl rfl (by decide) rfl rfl rfl (Nat.le_of_ble_eq_true rfl) (fun H locs hH => ?_)
  have hH : Hs D A s.heap (wLd cI ad (gH g, gR g, upd (gK g) (Int32.toNatClampNeg (gN g)) v1, upd (gF g) (Int32.toNatClampNeg (gN g)) v2, upd (gP g) (Int32.toNatClampNeg (gN g)) v3, gV g, gQ g, (gN g) + 1, gD g, gE g, gT g)) H locs := hH
  have hrs := wp_s hf
  subst hrs
  exact RET H locs ls 40 dX0_addThing_40 hH

def fX0_decree (v1 : Int32) (v2 : Int32) (v3 : Int32) (g : LandT) : Option (LandT) :=
  if ob v1 6 then none else
  if ob v1 6 then none else
  some (gH g, gR g, gK g, gF g, gP g, upd (gV g) (Int32.toNatClampNeg v1) v2, upd (gQ g) (Int32.toNatClampNeg v1) v3, gN g, gD g, gE g, gT g)

def rmX0_decree : Room := { frames := 0, cells := 0, slots := 0, locals := 0 }
theorem mbX0_decree_f27 : Cond.fieldLink RX0 27 (TX0 5).1 (TX0 5).2.1 (TX0 5).2.2.1 ∈ wsX0_decree := by decide +kernel
theorem inX0_decree_X0 : ∀ w ∈ wsX00, w ∈ wsX0_decree := by decide +kernel
theorem mbX0_decree_f30 : Cond.fieldLink RX0 30 (TX0 6).1 (TX0 6).2.1 (TX0 6).2.2.1 ∈ wsX0_decree := by decide +kernel
theorem hdVX0_decree : yX0_decree.cls = RX0 ∧ yX0_decree.cls ≠ "java/lang/invoke/MethodHandle" ∧ yX0_decree.cls ≠ "java/lang/invoke/VarHandle" ∧ (parseMethodDescriptor yX0_decree.desc).map (fun d => d.parameters.length) = some 3 := by decide +kernel
set_option maxHeartbeats 4000000 in
set_option maxRecDepth 100000 in
theorem ctX0_decree {l : Launch} {D : va_G} {cI cJ cQ : ClassId} (ad : Nat → Nat) (g : LandT) (v1 : Int32) (v2 : Int32) (v3 : Int32) {res : LandT} (h : fX0_decree v1 v2 v3 g = some res) : CtV l D cI cJ cQ yX0_decree wsX0_decree rmX0_decree [.ref (ad 0), .int v1, .int v2, .int v3] (wLd cI ad g) (wLd cI ad res) := by
  refine ctV_of (cc := cX0_decree) (maxL := 4) (by decide) rfl (Nat.le_of_ble_eq_true rfl) ?_
  intro p e s m args below meth c A Q ls F hK hA RET hH hl
  obtain ⟨hx, hb, hml, hown, hts⟩ := id F
  have hl : lv_has ls 4 [(0, .ref (ad 0)), (1, .int v1), (2, .int v2), (3, .int v3)] := hl
  have hf : wpO (fX0_decree v1 v2 v3 g) (fun v => v = res) := ⟨_, h, rfl⟩
  obtain ⟨H, eH⟩ : ∃ H, H = s.heap := ⟨_, rfl⟩
  obtain ⟨locs, eL⟩ : ∃ locs : List Loc, locs = [] := ⟨_, rfl⟩
  have hH : Hs D A s.heap (wLd cI ad g) H locs := by rw [eH, eL]; exact hH
  rw [← eL]
  suffices hgo : W p l e rmX0_decree s m args below meth c H locs 0 0 Q (F0 m 0 ls []) by rw [eH] at hgo; exact hgo
  clear eH eL
  refine lv_aload_n hx hb dX0_decree_0 rfl (lv_at hl 0 rfl) ?_
  refine k_get (v := .ref (ad 6)) F hK hH 0 inX0_decree_X0 5 mbX0_decree_f27 dX0_decree_1 rfl rfl (by decide) rfl ?_
  refine lv_iload_n hx hb dX0_decree_4 rfl (lv_at hl 1 rfl) ?_
  refine lv_iload_n hx hb dX0_decree_5 rfl (lv_at hl 2 rfl) ?_
  obtain ⟨hi, hf⟩ := wp_n hf
  refine k_iast (f := gV g) (n := 6) F hK hH 6 dX0_decree_6 hi rfl (fun H locs hH => ?_)
  have hH : Hs D A s.heap (wLd cI ad (gH g, gR g, gK g, gF g, gP g, upd (gV g) (Int32.toNatClampNeg v1) v2, gQ g, gN g, gD g, gE g, gT g)) H locs := hH
  refine lv_aload_n hx hb dX0_decree_7 rfl (lv_at hl 0 rfl) ?_
  refine k_get (v := .ref (ad 7)) F hK hH 0 inX0_decree_X0 6 mbX0_decree_f30 dX0_decree_8 rfl rfl (by decide) rfl ?_
  refine lv_iload_n hx hb dX0_decree_11 rfl (lv_at hl 1 rfl) ?_
  refine lv_iload_n hx hb dX0_decree_12 rfl (lv_at hl 3 rfl) ?_
  obtain ⟨hi, hf⟩ := wp_n hf
  refine k_iast (f := gQ g) (n := 6) F hK hH 7 dX0_decree_13 hi rfl (fun H locs hH => ?_)
  have hH : Hs D A s.heap (wLd cI ad (gH g, gR g, gK g, gF g, gP g, upd (gV g) (Int32.toNatClampNeg v1) v2, upd (gQ g) (Int32.toNatClampNeg v1) v3, gN g, gD g, gE g, gT g)) H locs := hH
  have hrs := wp_s hf
  subst hrs
  exact RET H locs ls 14 dX0_decree_14 hH

def fX0_divides (v0 : Int32) (v1 : Int32) : Option (Int32) :=
  if v0 = 0 then
    some 0
  else
    if v0 = 0 then none else
    if (irem v1 v0) = 0 then
      some 1
    else
      some 0

def rmX0_divides : Room := { frames := 0, cells := 0, slots := 0, locals := 0 }
theorem hdSX0_divides : yX0_divides.cls ≠ "java/lang/invoke/MethodHandle" ∧ yX0_divides.cls ≠ "java/lang/invoke/VarHandle" ∧ (parseMethodDescriptor yX0_divides.desc).map (fun d => d.parameters.length) = some 2 := by decide +kernel
set_option maxHeartbeats 4000000 in
set_option maxRecDepth 100000 in
theorem ctX0_divides {l : Launch} {D : va_G} {cI cJ cQ : ClassId}   (v0 : Int32) (v1 : Int32) {res : Int32} (h : fX0_divides v0 v1 = some res) : CtI l D cI cJ cQ yX0_divides wsX0_divides rmX0_divides [.int v0, .int v1] ([]) res ([]) := by
  refine ctI_of .boolean (cc := cX0_divides) (maxL := 2) (by decide) rfl (Nat.le_of_ble_eq_true rfl) ?_
  intro p e s m args below meth c A Q ls F hK hA RET hH hl
  obtain ⟨hx, hb, hml, hown, hts⟩ := id F
  have hl : lv_has ls 2 [(0, .int v0), (1, .int v1)] := hl
  have hf : wpO (fX0_divides v0 v1) (fun v => v = res) := ⟨_, h, rfl⟩
  obtain ⟨H, eH⟩ : ∃ H, H = s.heap := ⟨_, rfl⟩
  obtain ⟨locs, eL⟩ : ∃ locs : List Loc, locs = [] := ⟨_, rfl⟩
  have hH : Hs D A s.heap ([]) H locs := by rw [eH, eL]; exact hH
  rw [← eL]
  suffices hgo : W p l e rmX0_divides s m args below meth c H locs 0 0 Q (F0 m 0 ls []) by rw [eH] at hgo; exact hgo
  clear eH eL
  refine lv_iload_n hx hb dX0_divides_0 rfl (lv_at hl 0 rfl) ?_
  refine lv_if_eq (tgt := 14) hx hb dX0_divides_1 (by decide) (fun hc => ?_) (fun hc => ?_)
  · have hf := wp_t hc hf
    refine lv_iconst (v := 0) hx hb dX0_divides_14 (by decide) ?_
    have hrs := wp_s hf
    subst hrs
    exact RET H locs ls 15 dX0_divides_15 (by show narrow .boolean (.int 0) = .int 0; rfl) hH
  · have hf := wp_f hc hf
    refine lv_iload_n hx hb dX0_divides_4 rfl (lv_at hl 1 rfl) ?_
    refine lv_iload_n hx hb dX0_divides_5 rfl (lv_at hl 0 rfl) ?_
    obtain ⟨hz, hf⟩ := wp_n hf
    refine lv_irem hx hb dX0_divides_6 hz ?_
    refine lv_if_ne (tgt := 14) hx hb dX0_divides_7 (by decide) (fun hc => ?_) (fun hc => ?_)
    · have hf := wp_f hc hf
      refine lv_iconst (v := 0) hx hb dX0_divides_14 (by decide) ?_
      have hrs := wp_s hf
      subst hrs
      exact RET H locs ls 15 dX0_divides_15 (by show narrow .boolean (.int 0) = .int 0; rfl) hH
    · have hf := wp_t hc hf
      refine lv_iconst (v := 1) hx hb dX0_divides_10 (by decide) ?_
      refine lv_goto (tgt := 15) hx hb dX0_divides_11 (by decide) ?_
      have hrs := wp_s hf
      subst hrs
      exact RET H locs ls 15 dX0_divides_15 (by show narrow .boolean (.int 1) = .int 1; rfl) hH

