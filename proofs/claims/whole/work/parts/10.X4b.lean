def bX4_seenIn_4 (v1 : Int32) (r : (Nat → Int32)) : (Int32 × Int32) → Option ((Int32 × Int32) ⊕ (Int32)) := fun ((t1, t2) : Int32 × Int32) =>
  if (r (Int32.toNatClampNeg 0)) ≤ t2 then
    some (.inr t1)
  else
    Option.bind (fX4_has (r (Int32.toNatClampNeg 3)) t2) fun x4 =>
    Option.bind (if x4 = 0 then
        Option.bind (fX4_of t2 2) fun x6 =>
        if ob x6 53 then none else
        Option.bind (fX4_top t2 r) fun x7 =>
        Option.bind (fX4_isClear v1 (r (Int32.toNatClampNeg x6)) x7 r) fun x8 =>
        if x8 = 0 then
          some 0
        else
          some ((1 : Int32) <<< (t2 &&& 31))
      else
        some 0) fun (t5 : Int32) =>
    some (.inl (t1 ||| t5, t2 + 1))

def fX4_seenIn (v1 : Int32) (r : (Nat → Int32)) : Option (Int32) :=
  Option.bind (lp (bX4_seenIn_4 v1 r) fu (0, 0)) fun (t3 : Int32) =>
  some t3

def rmX4_seenIn : Room := { frames := 2, cells := 0, slots := 0, locals := 43 }
theorem hdSX4_seenIn : yX4_seenIn.cls ≠ "java/lang/invoke/MethodHandle" ∧ yX4_seenIn.cls ≠ "java/lang/invoke/VarHandle" ∧ (parseMethodDescriptor yX4_seenIn.desc).map (fun d => d.parameters.length) = some 2 := by decide +kernel
set_option maxHeartbeats 4000000 in
set_option maxRecDepth 100000 in
theorem ctX4_seenIn {l : Launch} {D : va_G} {cI cJ cQ : ClassId} (da : Nat) (r : (Nat → Int32)) (v1 : Int32) {res : Int32} (h : fX4_seenIn v1 r = some res) : CtI l D cI cJ cQ yX4_seenIn wsX4_seenIn rmX4_seenIn [.ref da, .int v1] (wAr cI da 53 r) res (wAr cI da 53 r) := by
  refine ctI_of .int (cc := cX4_seenIn) (maxL := 4) (by decide) rfl (Nat.le_of_ble_eq_true rfl) ?_
  intro p e s m args below meth c A Q ls F hK hA RET hH hl
  obtain ⟨hx, hb, hml, hown, hts⟩ := id F
  have hl : lv_has ls 4 [(0, .ref da), (1, .int v1)] := hl
  have hf : wpO (fX4_seenIn v1 r) (fun v => v = res) := ⟨_, h, rfl⟩
  obtain ⟨H, eH⟩ : ∃ H, H = s.heap := ⟨_, rfl⟩
  obtain ⟨locs, eL⟩ : ∃ locs : List Loc, locs = [] := ⟨_, rfl⟩
  have hH : Hs D A s.heap (wAr cI da 53 r) H locs := by rw [eH, eL]; exact hH
  rw [← eL]
  suffices hgo : W p l e rmX4_seenIn s m args below meth c H locs 0 0 Q (F0 m 0 ls []) by rw [eH] at hgo; exact hgo
  clear eH eL
  refine lv_iconst (v := 0) hx hb dX4_seenIn_0 (by decide) ?_
  refine lv_istore_n (lv' := [(2, .int 0), (0, .ref da), (1, .int v1)]) hx hb dX4_seenIn_1 rfl hl (by decide) rfl (fun ls hl => ?_)
  refine lv_iconst (v := 0) hx hb dX4_seenIn_2 (by decide) ?_
  refine lv_istore_n (lv' := [(3, .int 0), (2, .int 0), (0, .ref da), (1, .int v1)]) hx hb dX4_seenIn_3 rfl hl (by decide) rfl (fun ls hl => ?_)
  have LP : ∀ (Φ : (Int32) → Prop), (∀ (t3 : Int32) (H : Heap) (locs : List Loc) (ls : Array Slot), Φ (t3) → Hs D A s.heap (wAr cI da 53 r) H locs → lv_has ls 4 [(2, .int t3)] → W p l e rmX4_seenIn s m args below meth c H locs 0 0 Q (F0 m 57 ls [])) → ∀ (n : Nat) (t1 : Int32) (t2 : Int32) (H : Heap) (locs : List Loc) (ls : Array Slot), wpO (lp (bX4_seenIn_4 v1 r) n (t1, t2)) Φ → Hs D A s.heap (wAr cI da 53 r) H locs → lv_has ls 4 [(0, .ref da), (1, .int v1), (2, .int t1), (3, .int t2)] → W p l e rmX4_seenIn s m args below meth c H locs 0 0 Q (F0 m 4 ls []) := by
    intro Φ EX n
    induction n with
    | zero =>
      intro t1 t2 H locs ls hf hH hl
      exact (wp_l0 hf).elim
    | succ n ih =>
      intro t1 t2 H locs ls hf hH hl
      have hf := wp_l hf
      refine lv_iload_n hx hb dX4_seenIn_4 rfl (lv_at hl 3 rfl) ?_
      refine lv_aload_n hx hb dX4_seenIn_5 rfl (lv_at hl 0 rfl) ?_
      refine lv_iconst (v := 0) hx hb dX4_seenIn_6 (by decide) ?_
      refine k_iald (f := r) (n := 53) F hK hH 0 dX4_seenIn_7 (by decide) rfl ?_
      refine lv_icmp_ge (tgt := 57) hx hb dX4_seenIn_8 (by decide) (fun hc => ?_) (fun hc => ?_)
      · have hf := wp_t hc hf
        have hw := wp_out hf
        exact EX _ _ _ _ hw hH (lv_sub hl [2] rfl)
      · have hf := wp_f hc hf
        refine lv_iload_n hx hb dX4_seenIn_11 rfl (lv_at hl 2 rfl) ?_
        refine lv_aload_n hx hb dX4_seenIn_12 rfl (lv_at hl 0 rfl) ?_
        refine lv_iconst (v := 3) hx hb dX4_seenIn_13 (by decide) ?_
        refine k_iald (f := r) (n := 53) F hK hH 0 dX4_seenIn_14 (by decide) rfl ?_
        refine lv_iload_n hx hb dX4_seenIn_15 rfl (lv_at hl 3 rfl) ?_
        obtain ⟨x4, hcl, hf⟩ := wp_b hf
        refine k_Si F hK hH hA hl.1 ⟨Nat.zero_le _, Nat.zero_le _⟩ [] [.int (r (Int32.toNatClampNeg 3)), .int t2] [.int t1] (ctX4_has (r (Int32.toNatClampNeg 3)) t2 hcl) (va_cwS 2 hts gX4_seenIn_X4_has rfl rfl rfl hdSX4_has ⟨Nat.le_of_ble_eq_true rfl, Nat.le_of_ble_eq_true rfl⟩) dX4_seenIn_16 rfl rfl (Nat.le_of_ble_eq_true rfl) rfl rfl (by decide) (fun H locs hH => ?_)
        have hH : Hs D A s.heap (wAr cI da 53 r) H locs := hH
        refine join_ (α := Int32) (fun Φ => ∀ (t5 : Int32) (H : Heap) (locs : List Loc) (ls : Array Slot), Φ t5 → Hs D A s.heap (wAr cI da 53 r) H locs → lv_has ls 4 [(0, .ref da), (1, .int v1), (3, .int t2)] → W p l e rmX4_seenIn s m args below meth c H locs 0 0 Q (F0 m 49 ls [.int t5, .int t1])) (wp_bb hf) ?_ ?_
        · intro t5 H locs ls hf hH hl
          refine lv_ior hx hb dX4_seenIn_49 ?_
          refine lv_istore_n (lv' := [(2, .int (t1 ||| t5)), (0, .ref da), (1, .int v1), (3, .int t2)]) hx hb dX4_seenIn_50 rfl hl (by decide) rfl (fun ls hl => ?_)
          refine lv_iinc (v := t2 + 1) (lv' := [(3, .int (t2 + 1)), (2, .int (t1 ||| t5)), (0, .ref da), (1, .int v1)]) hx hb dX4_seenIn_51 hl (k := 3) rfl rfl (by decide) rfl (fun ls hl => ?_)
          refine lv_goto (tgt := 4) hx hb dX4_seenIn_54 (by decide) ?_
          have hw := wp_in hf
          exact ih _ _ _ _ _ hw hH (lv_sub hl [2, 3, 1, 0] rfl)
        · intro Φ JJ hf
          refine lv_if_ne (tgt := 48) hx hb dX4_seenIn_19 (by decide) (fun hc => ?_) (fun hc => ?_)
          · have hf := wp_f hc hf
            refine lv_iconst (v := 0) hx hb dX4_seenIn_48 (by decide) ?_
            have hw := wp_s hf
            exact JJ _ _ _ _ hw hH (lv_sub hl [0, 1, 3] rfl)
          · have hf := wp_t hc hf
            refine lv_aload_n hx hb dX4_seenIn_22 rfl (lv_at hl 0 rfl) ?_
            refine lv_iload_n hx hb dX4_seenIn_23 rfl (lv_at hl 1 rfl) ?_
            refine lv_aload_n hx hb dX4_seenIn_24 rfl (lv_at hl 0 rfl) ?_
            refine lv_iload_n hx hb dX4_seenIn_25 rfl (lv_at hl 3 rfl) ?_
            refine lv_iconst (v := 2) hx hb dX4_seenIn_26 (by decide) ?_
            obtain ⟨x6, hcl, hf⟩ := wp_b hf
            refine k_Si F hK hH hA hl.1 ⟨Nat.zero_le _, Nat.zero_le _⟩ [] [.int t2, .int 2] [.ref da, .int v1, .ref da, .int t1] (ctX4_of t2 2 hcl) (va_cwS 2 hts gX4_seenIn_X4_of rfl rfl rfl hdSX4_of ⟨Nat.le_of_ble_eq_true rfl, Nat.le_of_ble_eq_true rfl⟩) dX4_seenIn_27 rfl rfl (Nat.le_of_ble_eq_true rfl) rfl rfl (by decide) (fun H locs hH => ?_)
            have hH : Hs D A s.heap (wAr cI da 53 r) H locs := hH
            obtain ⟨hi, hf⟩ := wp_n hf
            refine k_iald (f := r) (n := 53) F hK hH 0 dX4_seenIn_30 hi rfl ?_
            refine lv_aload_n hx hb dX4_seenIn_31 rfl (lv_at hl 0 rfl) ?_
            refine lv_iload_n hx hb dX4_seenIn_32 rfl (lv_at hl 3 rfl) ?_
            obtain ⟨x7, hcl, hf⟩ := wp_b hf
            refine k_Si F hK hH hA hl.1 ⟨Nat.zero_le _, Nat.zero_le _⟩ [0] [.ref da, .int t2] [.int (r (Int32.toNatClampNeg x6)), .int v1, .ref da, .int t1] (ctX4_top da r t2 hcl) (va_cwS 2 hts gX4_seenIn_X4_top rfl rfl rfl hdSX4_top ⟨Nat.le_of_ble_eq_true rfl, Nat.le_of_ble_eq_true rfl⟩) dX4_seenIn_33 rfl rfl (Nat.le_of_ble_eq_true rfl) rfl rfl (by decide) (fun H locs hH => ?_)
            have hH : Hs D A s.heap (wAr cI da 53 r) H locs := hH
            obtain ⟨x8, hcl, hf⟩ := wp_b hf
            refine k_Si F hK hH hA hl.1 ⟨Nat.zero_le _, Nat.zero_le _⟩ [0] [.ref da, .int v1, .int (r (Int32.toNatClampNeg x6)), .int x7] [.int t1] (ctX4_isClear da r v1 (r (Int32.toNatClampNeg x6)) x7 hcl) (va_cwS 4 hts gX4_seenIn_X4_isClear rfl rfl rfl hdSX4_isClear ⟨Nat.le_of_ble_eq_true rfl, Nat.le_of_ble_eq_true rfl⟩) dX4_seenIn_36 rfl rfl (Nat.le_of_ble_eq_true rfl) rfl rfl (by decide) (fun H locs hH => ?_)
            have hH : Hs D A s.heap (wAr cI da 53 r) H locs := hH
            refine lv_if_eq (tgt := 48) hx hb dX4_seenIn_39 (by decide) (fun hc => ?_) (fun hc => ?_)
            · have hf := wp_t hc hf
              refine lv_iconst (v := 0) hx hb dX4_seenIn_48 (by decide) ?_
              have hw := wp_s hf
              exact JJ _ _ _ _ hw hH (lv_sub hl [0, 1, 3] rfl)
            · have hf := wp_f hc hf
              refine lv_iconst (v := 1) hx hb dX4_seenIn_42 (by decide) ?_
              refine lv_iload_n hx hb dX4_seenIn_43 rfl (lv_at hl 3 rfl) ?_
              refine lv_ishl hx hb dX4_seenIn_44 ?_
              refine lv_goto (tgt := 49) hx hb dX4_seenIn_45 (by decide) ?_
              have hw := wp_s hf
              exact JJ _ _ _ _ hw hH (lv_sub hl [0, 1, 3] rfl)
  refine LP _ (fun t3 H locs ls hf hH hl => ?_) fu _ _ _ _ _ (wp_bb hf) hH (lv_sub hl [2, 3, 1, 0] rfl)
  refine lv_iload_n hx hb dX4_seenIn_57 rfl (lv_at hl 0 rfl) ?_
  have hrs := wp_s hf
  subst hrs
  exact RET H locs ls 58 dX4_seenIn_58 rfl hH

def bX4_decides_12 (r : (Nat → Int32)) (x1 : Int32) : (Int32 × Int32) → Option ((Int32 × Int32) ⊕ (Int32)) := fun ((t2, t3) : Int32 × Int32) =>
  if (r (Int32.toNatClampNeg 0)) ≤ t3 then
    some (.inr t2)
  else
    Option.bind (fX4_of t3 0) fun x5 =>
    if ob x5 53 then none else
    Option.bind (fX4_has x1 t3) fun x6 =>
    if x6 = 0 then
      some (.inl (t2, t3 + 1))
    else
      if ob (20 + (r (Int32.toNatClampNeg x5))) 53 then none else
      if (r (Int32.toNatClampNeg (20 + (r (Int32.toNatClampNeg x5))))) = 0 then
        some (.inl (t2, t3 + 1))
      else
        if t2 < 0 then
          some (.inl (t3, t3 + 1))
        else
          if ob (26 + (r (Int32.toNatClampNeg x5))) 53 then none else
          Option.bind (fX4_of t2 0) fun x7 =>
          if ob x7 53 then none else
          if ob (26 + (r (Int32.toNatClampNeg x7))) 53 then none else
          if (r (Int32.toNatClampNeg (26 + (r (Int32.toNatClampNeg x5))))) ≤ (r (Int32.toNatClampNeg (26 + (r (Int32.toNatClampNeg x7))))) then
            some (.inl (t2, t3 + 1))
          else
            some (.inl (t3, t3 + 1))

def fX4_decides (v1 : Int32) (r : (Nat → Int32)) : Option (Int32) :=
  Option.bind (fX4_seenIn v1 r) fun x1 =>
  Option.bind (lp (bX4_decides_12 r x1) fu ((-9), 0)) fun (t4 : Int32) =>
  some t4

def rmX4_decides : Room := { frames := 3, cells := 0, slots := 0, locals := 66 }
theorem hdSX4_decides : yX4_decides.cls ≠ "java/lang/invoke/MethodHandle" ∧ yX4_decides.cls ≠ "java/lang/invoke/VarHandle" ∧ (parseMethodDescriptor yX4_decides.desc).map (fun d => d.parameters.length) = some 2 := by decide +kernel
set_option maxHeartbeats 4000000 in
set_option maxRecDepth 100000 in
theorem ctX4_decides {l : Launch} {D : va_G} {cI cJ cQ : ClassId} (da : Nat) (r : (Nat → Int32)) (v1 : Int32) {res : Int32} (h : fX4_decides v1 r = some res) : CtI l D cI cJ cQ yX4_decides wsX4_decides rmX4_decides [.ref da, .int v1] (wAr cI da 53 r) res (wAr cI da 53 r) := by
  refine ctI_of .int (cc := cX4_decides) (maxL := 6) (by decide) rfl (Nat.le_of_ble_eq_true rfl) ?_
  intro p e s m args below meth c A Q ls F hK hA RET hH hl
  obtain ⟨hx, hb, hml, hown, hts⟩ := id F
  have hl : lv_has ls 6 [(0, .ref da), (1, .int v1)] := hl
  have hf : wpO (fX4_decides v1 r) (fun v => v = res) := ⟨_, h, rfl⟩
  obtain ⟨H, eH⟩ : ∃ H, H = s.heap := ⟨_, rfl⟩
  obtain ⟨locs, eL⟩ : ∃ locs : List Loc, locs = [] := ⟨_, rfl⟩
  have hH : Hs D A s.heap (wAr cI da 53 r) H locs := by rw [eH, eL]; exact hH
  rw [← eL]
  suffices hgo : W p l e rmX4_decides s m args below meth c H locs 0 0 Q (F0 m 0 ls []) by rw [eH] at hgo; exact hgo
  clear eH eL
  refine lv_aload_n hx hb dX4_decides_0 rfl (lv_at hl 0 rfl) ?_
  refine lv_iload_n hx hb dX4_decides_1 rfl (lv_at hl 1 rfl) ?_
  obtain ⟨x1, hcl, hf⟩ := wp_b hf
  refine k_Si F hK hH hA hl.1 ⟨Nat.zero_le _, Nat.zero_le _⟩ [0] [.ref da, .int v1] [] (ctX4_seenIn da r v1 hcl) (va_cwS 2 hts gX4_decides_X4_seenIn rfl rfl rfl hdSX4_seenIn ⟨Nat.le_of_ble_eq_true rfl, Nat.le_of_ble_eq_true rfl⟩) dX4_decides_2 rfl rfl (Nat.le_of_ble_eq_true rfl) rfl rfl (by decide) (fun H locs hH => ?_)
  have hH : Hs D A s.heap (wAr cI da 53 r) H locs := hH
  refine lv_istore_n (lv' := [(2, .int x1), (0, .ref da), (1, .int v1)]) hx hb dX4_decides_5 rfl hl (by decide) rfl (fun ls hl => ?_)
  refine lv_bipush (v := (-9)) hx hb dX4_decides_6 (by decide) ?_
  refine lv_istore_n (lv' := [(3, .int (-9)), (2, .int x1), (0, .ref da), (1, .int v1)]) hx hb dX4_decides_8 rfl hl (by decide) rfl (fun ls hl => ?_)
  refine lv_iconst (v := 0) hx hb dX4_decides_9 (by decide) ?_
  refine lv_istore (lv' := [(4, .int 0), (3, .int (-9)), (2, .int x1), (0, .ref da), (1, .int v1)]) hx hb dX4_decides_10 hl (by decide) rfl (fun ls hl => ?_)
  have LP : ∀ (Φ : (Int32) → Prop), (∀ (t4 : Int32) (H : Heap) (locs : List Loc) (ls : Array Slot), Φ (t4) → Hs D A s.heap (wAr cI da 53 r) H locs → lv_has ls 6 [(3, .int t4)] → W p l e rmX4_decides s m args below meth c H locs 0 0 Q (F0 m 87 ls [])) → ∀ (n : Nat) (t2 : Int32) (t3 : Int32) (H : Heap) (locs : List Loc) (ls : Array Slot), wpO (lp (bX4_decides_12 r x1) n (t2, t3)) Φ → Hs D A s.heap (wAr cI da 53 r) H locs → lv_has ls 6 [(0, .ref da), (2, .int x1), (3, .int t2), (4, .int t3)] → W p l e rmX4_decides s m args below meth c H locs 0 0 Q (F0 m 12 ls []) := by
    intro Φ EX n
    induction n with
    | zero =>
      intro t2 t3 H locs ls hf hH hl
      exact (wp_l0 hf).elim
    | succ n ih =>
      intro t2 t3 H locs ls hf hH hl
      have hf := wp_l hf
      refine lv_iload hx hb dX4_decides_12 (lv_at hl 3 rfl) ?_
      refine lv_aload_n hx hb dX4_decides_14 rfl (lv_at hl 0 rfl) ?_
      refine lv_iconst (v := 0) hx hb dX4_decides_15 (by decide) ?_
      refine k_iald (f := r) (n := 53) F hK hH 0 dX4_decides_16 (by decide) rfl ?_
      refine lv_icmp_ge (tgt := 87) hx hb dX4_decides_17 (by decide) (fun hc => ?_) (fun hc => ?_)
      · have hf := wp_t hc hf
        have hw := wp_out hf
        exact EX _ _ _ _ hw hH (lv_sub hl [2] rfl)
      · have hf := wp_f hc hf
        refine lv_aload_n hx hb dX4_decides_20 rfl (lv_at hl 0 rfl) ?_
        refine lv_iload hx hb dX4_decides_21 (lv_at hl 3 rfl) ?_
        refine lv_iconst (v := 0) hx hb dX4_decides_23 (by decide) ?_
        obtain ⟨x5, hcl, hf⟩ := wp_b hf
        refine k_Si F hK hH hA hl.1 ⟨Nat.zero_le _, Nat.zero_le _⟩ [] [.int t3, .int 0] [.ref da] (ctX4_of t3 0 hcl) (va_cwS 2 hts gX4_decides_X4_of rfl rfl rfl hdSX4_of ⟨Nat.le_of_ble_eq_true rfl, Nat.le_of_ble_eq_true rfl⟩) dX4_decides_24 rfl rfl (Nat.le_of_ble_eq_true rfl) rfl rfl (by decide) (fun H locs hH => ?_)
        have hH : Hs D A s.heap (wAr cI da 53 r) H locs := hH
        obtain ⟨hi, hf⟩ := wp_n hf
        refine k_iald (f := r) (n := 53) F hK hH 0 dX4_decides_27 hi rfl ?_
        refine lv_istore (lv' := [(5, .int (r (Int32.toNatClampNeg x5))), (0, .ref da), (2, .int x1), (3, .int t2), (4, .int t3)]) hx hb dX4_decides_28 hl (by decide) rfl (fun ls hl => ?_)
        refine lv_iload_n hx hb dX4_decides_30 rfl (lv_at hl 2 rfl) ?_
        refine lv_iload hx hb dX4_decides_31 (lv_at hl 4 rfl) ?_
        obtain ⟨x6, hcl, hf⟩ := wp_b hf
        refine k_Si F hK hH hA hl.1 ⟨Nat.zero_le _, Nat.zero_le _⟩ [] [.int x1, .int t3] [] (ctX4_has x1 t3 hcl) (va_cwS 2 hts gX4_decides_X4_has rfl rfl rfl hdSX4_has ⟨Nat.le_of_ble_eq_true rfl, Nat.le_of_ble_eq_true rfl⟩) dX4_decides_33 rfl rfl (Nat.le_of_ble_eq_true rfl) rfl rfl (by decide) (fun H locs hH => ?_)
        have hH : Hs D A s.heap (wAr cI da 53 r) H locs := hH
        refine lv_if_eq (tgt := 81) hx hb dX4_decides_36 (by decide) (fun hc => ?_) (fun hc => ?_)
        · have hf := wp_t hc hf
          refine lv_iinc (v := t3 + 1) (lv' := [(4, .int (t3 + 1)), (5, .int (r (Int32.toNatClampNeg x5))), (0, .ref da), (2, .int x1), (3, .int t2)]) hx hb dX4_decides_81 hl (k := 4) rfl rfl (by decide) rfl (fun ls hl => ?_)
          refine lv_goto (tgt := 12) hx hb dX4_decides_84 (by decide) ?_
          have hw := wp_in hf
          exact ih _ _ _ _ _ hw hH (lv_sub hl [2, 3, 4, 0] rfl)
        · have hf := wp_f hc hf
          refine lv_aload_n hx hb dX4_decides_39 rfl (lv_at hl 1 rfl) ?_
          refine lv_bipush (v := 20) hx hb dX4_decides_40 (by decide) ?_
          refine lv_iload hx hb dX4_decides_42 (lv_at hl 0 rfl) ?_
          refine lv_iadd hx hb dX4_decides_44 ?_
          obtain ⟨hi, hf⟩ := wp_n hf
          refine k_iald (f := r) (n := 53) F hK hH 0 dX4_decides_45 hi rfl ?_
          refine lv_if_ne (tgt := 52) hx hb dX4_decides_46 (by decide) (fun hc => ?_) (fun hc => ?_)
          · have hf := wp_f hc hf
            refine lv_iload_n hx hb dX4_decides_52 rfl (lv_at hl 3 rfl) ?_
            refine lv_if_lt (tgt := 78) hx hb dX4_decides_53 (by decide) (fun hc => ?_) (fun hc => ?_)
            · have hf := wp_t hc hf
              refine lv_iload hx hb dX4_decides_78 (lv_at hl 4 rfl) ?_
              refine lv_istore_n (lv' := [(3, .int t3), (5, .int (r (Int32.toNatClampNeg x5))), (0, .ref da), (2, .int x1), (4, .int t3)]) hx hb dX4_decides_80 rfl hl (by decide) rfl (fun ls hl => ?_)
              refine lv_iinc (v := t3 + 1) (lv' := [(4, .int (t3 + 1)), (3, .int t3), (5, .int (r (Int32.toNatClampNeg x5))), (0, .ref da), (2, .int x1)]) hx hb dX4_decides_81 hl (k := 4) rfl rfl (by decide) rfl (fun ls hl => ?_)
              refine lv_goto (tgt := 12) hx hb dX4_decides_84 (by decide) ?_
              have hw := wp_in hf
              exact ih _ _ _ _ _ hw hH (lv_sub hl [3, 4, 1, 0] rfl)
            · have hf := wp_f hc hf
              refine lv_aload_n hx hb dX4_decides_56 rfl (lv_at hl 1 rfl) ?_
              refine lv_bipush (v := 26) hx hb dX4_decides_57 (by decide) ?_
              refine lv_iload hx hb dX4_decides_59 (lv_at hl 0 rfl) ?_
              refine lv_iadd hx hb dX4_decides_61 ?_
              obtain ⟨hi, hf⟩ := wp_n hf
              refine k_iald (f := r) (n := 53) F hK hH 0 dX4_decides_62 hi rfl ?_
              refine lv_aload_n hx hb dX4_decides_63 rfl (lv_at hl 1 rfl) ?_
              refine lv_bipush (v := 26) hx hb dX4_decides_64 (by decide) ?_
              refine lv_aload_n hx hb dX4_decides_66 rfl (lv_at hl 1 rfl) ?_
              refine lv_iload_n hx hb dX4_decides_67 rfl (lv_at hl 3 rfl) ?_
              refine lv_iconst (v := 0) hx hb dX4_decides_68 (by decide) ?_
              obtain ⟨x7, hcl, hf⟩ := wp_b hf
              refine k_Si F hK hH hA hl.1 ⟨Nat.zero_le _, Nat.zero_le _⟩ [] [.int t2, .int 0] [.ref da, .int 26, .ref da, .int (r (Int32.toNatClampNeg (26 + (r (Int32.toNatClampNeg x5)))))] (ctX4_of t2 0 hcl) (va_cwS 2 hts gX4_decides_X4_of rfl rfl rfl hdSX4_of ⟨Nat.le_of_ble_eq_true rfl, Nat.le_of_ble_eq_true rfl⟩) dX4_decides_69 rfl rfl (Nat.le_of_ble_eq_true rfl) rfl rfl (by decide) (fun H locs hH => ?_)
              have hH : Hs D A s.heap (wAr cI da 53 r) H locs := hH
              obtain ⟨hi, hf⟩ := wp_n hf
              refine k_iald (f := r) (n := 53) F hK hH 0 dX4_decides_72 hi rfl ?_
              refine lv_iadd hx hb dX4_decides_73 ?_
              obtain ⟨hi, hf⟩ := wp_n hf
              refine k_iald (f := r) (n := 53) F hK hH 0 dX4_decides_74 hi rfl ?_
              refine lv_icmp_le (tgt := 81) hx hb dX4_decides_75 (by decide) (fun hc => ?_) (fun hc => ?_)
              · have hf := wp_t hc hf
                refine lv_iinc (v := t3 + 1) (lv' := [(4, .int (t3 + 1)), (5, .int (r (Int32.toNatClampNeg x5))), (0, .ref da), (2, .int x1), (3, .int t2)]) hx hb dX4_decides_81 hl (k := 4) rfl rfl (by decide) rfl (fun ls hl => ?_)
                refine lv_goto (tgt := 12) hx hb dX4_decides_84 (by decide) ?_
                have hw := wp_in hf
                exact ih _ _ _ _ _ hw hH (lv_sub hl [2, 3, 4, 0] rfl)
              · have hf := wp_f hc hf
                refine lv_iload hx hb dX4_decides_78 (lv_at hl 4 rfl) ?_
                refine lv_istore_n (lv' := [(3, .int t3), (5, .int (r (Int32.toNatClampNeg x5))), (0, .ref da), (2, .int x1), (4, .int t3)]) hx hb dX4_decides_80 rfl hl (by decide) rfl (fun ls hl => ?_)
                refine lv_iinc (v := t3 + 1) (lv' := [(4, .int (t3 + 1)), (3, .int t3), (5, .int (r (Int32.toNatClampNeg x5))), (0, .ref da), (2, .int x1)]) hx hb dX4_decides_81 hl (k := 4) rfl rfl (by decide) rfl (fun ls hl => ?_)
                refine lv_goto (tgt := 12) hx hb dX4_decides_84 (by decide) ?_
                have hw := wp_in hf
                exact ih _ _ _ _ _ hw hH (lv_sub hl [3, 4, 1, 0] rfl)
          · have hf := wp_t hc hf
            refine lv_goto (tgt := 81) hx hb dX4_decides_49 (by decide) ?_
            refine lv_iinc (v := t3 + 1) (lv' := [(4, .int (t3 + 1)), (5, .int (r (Int32.toNatClampNeg x5))), (0, .ref da), (2, .int x1), (3, .int t2)]) hx hb dX4_decides_81 hl (k := 4) rfl rfl (by decide) rfl (fun ls hl => ?_)
            refine lv_goto (tgt := 12) hx hb dX4_decides_84 (by decide) ?_
            have hw := wp_in hf
            exact ih _ _ _ _ _ hw hH (lv_sub hl [2, 3, 4, 0] rfl)
  refine LP _ (fun t4 H locs ls hf hH hl => ?_) fu _ _ _ _ _ (wp_bb hf) hH (lv_sub hl [3, 2, 1, 0] rfl)
  refine lv_iload_n hx hb dX4_decides_87 rfl (lv_at hl 0 rfl) ?_
  have hrs := wp_s hf
  subst hrs
  exact RET H locs ls 88 dX4_decides_88 rfl hH

def fX4_verdictIn (v1 : Int32) (r : (Nat → Int32)) : Option (Int32) :=
  Option.bind (fX4_decides v1 r) fun x1 =>
  if (0 : Int32) ≤ x1 then
    Option.bind (fX4_of x1 0) fun x2 =>
    if ob x2 53 then none else
    if ob (20 + (r (Int32.toNatClampNeg x2))) 53 then none else
    some (r (Int32.toNatClampNeg (20 + (r (Int32.toNatClampNeg x2)))))
  else
    some 0

def rmX4_verdictIn : Room := { frames := 4, cells := 0, slots := 0, locals := 91 }
theorem hdSX4_verdictIn : yX4_verdictIn.cls ≠ "java/lang/invoke/MethodHandle" ∧ yX4_verdictIn.cls ≠ "java/lang/invoke/VarHandle" ∧ (parseMethodDescriptor yX4_verdictIn.desc).map (fun d => d.parameters.length) = some 2 := by decide +kernel
set_option maxHeartbeats 4000000 in
set_option maxRecDepth 100000 in
theorem ctX4_verdictIn {l : Launch} {D : va_G} {cI cJ cQ : ClassId} (da : Nat) (r : (Nat → Int32)) (v1 : Int32) {res : Int32} (h : fX4_verdictIn v1 r = some res) : CtI l D cI cJ cQ yX4_verdictIn wsX4_verdictIn rmX4_verdictIn [.ref da, .int v1] (wAr cI da 53 r) res (wAr cI da 53 r) := by
  refine ctI_of .int (cc := cX4_verdictIn) (maxL := 3) (by decide) rfl (Nat.le_of_ble_eq_true rfl) ?_
  intro p e s m args below meth c A Q ls F hK hA RET hH hl
  obtain ⟨hx, hb, hml, hown, hts⟩ := id F
  have hl : lv_has ls 3 [(0, .ref da), (1, .int v1)] := hl
  have hf : wpO (fX4_verdictIn v1 r) (fun v => v = res) := ⟨_, h, rfl⟩
  obtain ⟨H, eH⟩ : ∃ H, H = s.heap := ⟨_, rfl⟩
  obtain ⟨locs, eL⟩ : ∃ locs : List Loc, locs = [] := ⟨_, rfl⟩
  have hH : Hs D A s.heap (wAr cI da 53 r) H locs := by rw [eH, eL]; exact hH
  rw [← eL]
  suffices hgo : W p l e rmX4_verdictIn s m args below meth c H locs 0 0 Q (F0 m 0 ls []) by rw [eH] at hgo; exact hgo
  clear eH eL
  refine lv_aload_n hx hb dX4_verdictIn_0 rfl (lv_at hl 0 rfl) ?_
  refine lv_iload_n hx hb dX4_verdictIn_1 rfl (lv_at hl 1 rfl) ?_
  obtain ⟨x1, hcl, hf⟩ := wp_b hf
  refine k_Si F hK hH hA hl.1 ⟨Nat.zero_le _, Nat.zero_le _⟩ [0] [.ref da, .int v1] [] (ctX4_decides da r v1 hcl) (va_cwS 2 hts gX4_verdictIn_X4_decides rfl rfl rfl hdSX4_decides ⟨Nat.le_of_ble_eq_true rfl, Nat.le_of_ble_eq_true rfl⟩) dX4_verdictIn_2 rfl rfl (Nat.le_of_ble_eq_true rfl) rfl rfl (by decide) (fun H locs hH => ?_)
  have hH : Hs D A s.heap (wAr cI da 53 r) H locs := hH
  refine lv_istore_n (lv' := [(2, .int x1), (0, .ref da), (1, .int v1)]) hx hb dX4_verdictIn_5 rfl hl (by decide) rfl (fun ls hl => ?_)
  refine lv_iload_n hx hb dX4_verdictIn_6 rfl (lv_at hl 0 rfl) ?_
  refine lv_if_ge (tgt := 14) hx hb dX4_verdictIn_7 (by decide) (fun hc => ?_) (fun hc => ?_)
  · have hf := wp_t hc hf
    refine lv_aload_n hx hb dX4_verdictIn_14 rfl (lv_at hl 1 rfl) ?_
    refine lv_bipush (v := 20) hx hb dX4_verdictIn_15 (by decide) ?_
    refine lv_aload_n hx hb dX4_verdictIn_17 rfl (lv_at hl 1 rfl) ?_
    refine lv_iload_n hx hb dX4_verdictIn_18 rfl (lv_at hl 0 rfl) ?_
    refine lv_iconst (v := 0) hx hb dX4_verdictIn_19 (by decide) ?_
    obtain ⟨x2, hcl, hf⟩ := wp_b hf
    refine k_Si F hK hH hA hl.1 ⟨Nat.zero_le _, Nat.zero_le _⟩ [] [.int x1, .int 0] [.ref da, .int 20, .ref da] (ctX4_of x1 0 hcl) (va_cwS 2 hts gX4_verdictIn_X4_of rfl rfl rfl hdSX4_of ⟨Nat.le_of_ble_eq_true rfl, Nat.le_of_ble_eq_true rfl⟩) dX4_verdictIn_20 rfl rfl (Nat.le_of_ble_eq_true rfl) rfl rfl (by decide) (fun H locs hH => ?_)
    have hH : Hs D A s.heap (wAr cI da 53 r) H locs := hH
    obtain ⟨hi, hf⟩ := wp_n hf
    refine k_iald (f := r) (n := 53) F hK hH 0 dX4_verdictIn_23 hi rfl ?_
    refine lv_iadd hx hb dX4_verdictIn_24 ?_
    obtain ⟨hi, hf⟩ := wp_n hf
    refine k_iald (f := r) (n := 53) F hK hH 0 dX4_verdictIn_25 hi rfl ?_
    have hrs := wp_s hf
    subst hrs
    exact RET H locs ls 26 dX4_verdictIn_26 rfl hH
  · have hf := wp_f hc hf
    refine lv_iconst (v := 0) hx hb dX4_verdictIn_10 (by decide) ?_
    refine lv_goto (tgt := 26) hx hb dX4_verdictIn_11 (by decide) ?_
    have hrs := wp_s hf
    subst hrs
    exact RET H locs ls 26 dX4_verdictIn_26 rfl hH

def bX4_branchesIn_4 (v1 : Int32) (r : (Nat → Int32)) : (Int32 × Int32) → Option ((Int32 × Int32) ⊕ (Int32)) := fun ((t1, t2) : Int32 × Int32) =>
  if (10 : Int32) ≤ t2 then
    some (.inr t1)
  else
    Option.bind (fX4_verdictIn t2 r) fun x4 =>
    Option.bind (if x4 = v1 then
        some ((1 : Int32) <<< (t2 &&& 31))
      else
        some 0) fun (t5 : Int32) =>
    some (.inl (t1 ||| t5, t2 + 1))

def fX4_branchesIn (v1 : Int32) (r : (Nat → Int32)) : Option (Int32) :=
  Option.bind (lp (bX4_branchesIn_4 v1 r) fu (0, 0)) fun (t3 : Int32) =>
  some t3

def rmX4_branchesIn : Room := { frames := 5, cells := 0, slots := 0, locals := 113 }
theorem hdSX4_branchesIn : yX4_branchesIn.cls ≠ "java/lang/invoke/MethodHandle" ∧ yX4_branchesIn.cls ≠ "java/lang/invoke/VarHandle" ∧ (parseMethodDescriptor yX4_branchesIn.desc).map (fun d => d.parameters.length) = some 2 := by decide +kernel
set_option maxHeartbeats 4000000 in
set_option maxRecDepth 100000 in
theorem ctX4_branchesIn {l : Launch} {D : va_G} {cI cJ cQ : ClassId} (da : Nat) (r : (Nat → Int32)) (v1 : Int32) {res : Int32} (h : fX4_branchesIn v1 r = some res) : CtI l D cI cJ cQ yX4_branchesIn wsX4_branchesIn rmX4_branchesIn [.ref da, .int v1] (wAr cI da 53 r) res (wAr cI da 53 r) := by
  refine ctI_of .int (cc := cX4_branchesIn) (maxL := 4) (by decide) rfl (Nat.le_of_ble_eq_true rfl) ?_
  intro p e s m args below meth c A Q ls F hK hA RET hH hl
  obtain ⟨hx, hb, hml, hown, hts⟩ := id F
  have hl : lv_has ls 4 [(0, .ref da), (1, .int v1)] := hl
  have hf : wpO (fX4_branchesIn v1 r) (fun v => v = res) := ⟨_, h, rfl⟩
  obtain ⟨H, eH⟩ : ∃ H, H = s.heap := ⟨_, rfl⟩
  obtain ⟨locs, eL⟩ : ∃ locs : List Loc, locs = [] := ⟨_, rfl⟩
  have hH : Hs D A s.heap (wAr cI da 53 r) H locs := by rw [eH, eL]; exact hH
  rw [← eL]
  suffices hgo : W p l e rmX4_branchesIn s m args below meth c H locs 0 0 Q (F0 m 0 ls []) by rw [eH] at hgo; exact hgo
  clear eH eL
  refine lv_iconst (v := 0) hx hb dX4_branchesIn_0 (by decide) ?_
  refine lv_istore_n (lv' := [(2, .int 0), (0, .ref da), (1, .int v1)]) hx hb dX4_branchesIn_1 rfl hl (by decide) rfl (fun ls hl => ?_)
  refine lv_iconst (v := 0) hx hb dX4_branchesIn_2 (by decide) ?_
  refine lv_istore_n (lv' := [(3, .int 0), (2, .int 0), (0, .ref da), (1, .int v1)]) hx hb dX4_branchesIn_3 rfl hl (by decide) rfl (fun ls hl => ?_)
  have LP : ∀ (Φ : (Int32) → Prop), (∀ (t3 : Int32) (H : Heap) (locs : List Loc) (ls : Array Slot), Φ (t3) → Hs D A s.heap (wAr cI da 53 r) H locs → lv_has ls 4 [(2, .int t3)] → W p l e rmX4_branchesIn s m args below meth c H locs 0 0 Q (F0 m 35 ls [])) → ∀ (n : Nat) (t1 : Int32) (t2 : Int32) (H : Heap) (locs : List Loc) (ls : Array Slot), wpO (lp (bX4_branchesIn_4 v1 r) n (t1, t2)) Φ → Hs D A s.heap (wAr cI da 53 r) H locs → lv_has ls 4 [(0, .ref da), (1, .int v1), (2, .int t1), (3, .int t2)] → W p l e rmX4_branchesIn s m args below meth c H locs 0 0 Q (F0 m 4 ls []) := by
    intro Φ EX n
    induction n with
    | zero =>
      intro t1 t2 H locs ls hf hH hl
      exact (wp_l0 hf).elim
    | succ n ih =>
      intro t1 t2 H locs ls hf hH hl
      have hf := wp_l hf
      refine lv_iload_n hx hb dX4_branchesIn_4 rfl (lv_at hl 3 rfl) ?_
      refine lv_bipush (v := 10) hx hb dX4_branchesIn_5 (by decide) ?_
      refine lv_icmp_ge (tgt := 35) hx hb dX4_branchesIn_7 (by decide) (fun hc => ?_) (fun hc => ?_)
      · have hf := wp_t hc hf
        have hw := wp_out hf
        exact EX _ _ _ _ hw hH (lv_sub hl [2] rfl)
      · have hf := wp_f hc hf
        refine lv_iload_n hx hb dX4_branchesIn_10 rfl (lv_at hl 2 rfl) ?_
        refine lv_aload_n hx hb dX4_branchesIn_11 rfl (lv_at hl 0 rfl) ?_
        refine lv_iload_n hx hb dX4_branchesIn_12 rfl (lv_at hl 3 rfl) ?_
        obtain ⟨x4, hcl, hf⟩ := wp_b hf
        refine k_Si F hK hH hA hl.1 ⟨Nat.zero_le _, Nat.zero_le _⟩ [0] [.ref da, .int t2] [.int t1] (ctX4_verdictIn da r t2 hcl) (va_cwS 2 hts gX4_branchesIn_X4_verdictIn rfl rfl rfl hdSX4_verdictIn ⟨Nat.le_of_ble_eq_true rfl, Nat.le_of_ble_eq_true rfl⟩) dX4_branchesIn_13 rfl rfl (Nat.le_of_ble_eq_true rfl) rfl rfl (by decide) (fun H locs hH => ?_)
        have hH : Hs D A s.heap (wAr cI da 53 r) H locs := hH
        refine lv_iload_n hx hb dX4_branchesIn_16 rfl (lv_at hl 1 rfl) ?_
        refine join_ (α := Int32) (fun Φ => ∀ (t5 : Int32) (H : Heap) (locs : List Loc) (ls : Array Slot), Φ t5 → Hs D A s.heap (wAr cI da 53 r) H locs → lv_has ls 4 [(0, .ref da), (1, .int v1), (3, .int t2)] → W p l e rmX4_branchesIn s m args below meth c H locs 0 0 Q (F0 m 27 ls [.int t5, .int t1])) (wp_bb hf) ?_ ?_
        · intro t5 H locs ls hf hH hl
          refine lv_ior hx hb dX4_branchesIn_27 ?_
          refine lv_istore_n (lv' := [(2, .int (t1 ||| t5)), (0, .ref da), (1, .int v1), (3, .int t2)]) hx hb dX4_branchesIn_28 rfl hl (by decide) rfl (fun ls hl => ?_)
          refine lv_iinc (v := t2 + 1) (lv' := [(3, .int (t2 + 1)), (2, .int (t1 ||| t5)), (0, .ref da), (1, .int v1)]) hx hb dX4_branchesIn_29 hl (k := 3) rfl rfl (by decide) rfl (fun ls hl => ?_)
          refine lv_goto (tgt := 4) hx hb dX4_branchesIn_32 (by decide) ?_
          have hw := wp_in hf
          exact ih _ _ _ _ _ hw hH (lv_sub hl [2, 3, 1, 0] rfl)
        · intro Φ JJ hf
          refine lv_icmp_ne (tgt := 26) hx hb dX4_branchesIn_17 (by decide) (fun hc => ?_) (fun hc => ?_)
          · have hf := wp_f hc hf
            refine lv_iconst (v := 0) hx hb dX4_branchesIn_26 (by decide) ?_
            have hw := wp_s hf
            exact JJ _ _ _ _ hw hH (lv_sub hl [0, 1, 3] rfl)
          · have hf := wp_t hc hf
            refine lv_iconst (v := 1) hx hb dX4_branchesIn_20 (by decide) ?_
            refine lv_iload_n hx hb dX4_branchesIn_21 rfl (lv_at hl 3 rfl) ?_
            refine lv_ishl hx hb dX4_branchesIn_22 ?_
            refine lv_goto (tgt := 27) hx hb dX4_branchesIn_23 (by decide) ?_
            have hw := wp_s hf
            exact JJ _ _ _ _ hw hH (lv_sub hl [0, 1, 3] rfl)
  refine LP _ (fun t3 H locs ls hf hH hl => ?_) fu _ _ _ _ _ (wp_bb hf) hH (lv_sub hl [2, 3, 1, 0] rfl)
  refine lv_iload_n hx hb dX4_branchesIn_35 rfl (lv_at hl 0 rfl) ?_
  have hrs := wp_s hf
  subst hrs
  exact RET H locs ls 36 dX4_branchesIn_36 rfl hH

def bX4_hour_9  : (Int32 × (Nat → Int32)) → Option ((Int32 × (Nat → Int32)) ⊕ ((Nat → Int32))) := fun ((t1, t2) : Int32 × (Nat → Int32)) =>
  if (t2 (Int32.toNatClampNeg 0)) ≤ t1 then
    some (.inr t2)
  else
    Option.bind (fX4_of t1 2) fun x4 =>
    Option.bind (fX4_of t1 2) fun x5 =>
    if ob x5 53 then none else
    Option.bind (fX4_of t1 0) fun x6 =>
    if ob x6 53 then none else
    Option.bind (fX4_of t1 1) fun x7 =>
    if ob x7 53 then none else
    Option.bind (fX4_goesBy (t2 (Int32.toNatClampNeg x6)) (t2 (Int32.toNatClampNeg x7)) (t2 (Int32.toNatClampNeg 1))) fun x8 =>
    if ob x4 53 then none else
    some (.inl (t1 + 1, upd t2 (Int32.toNatClampNeg x4) (irem ((t2 (Int32.toNatClampNeg x5)) + x8) 16)))

def fX4_hour (r : (Nat → Int32)) : Option ((Nat → Int32)) :=
  Option.bind (lp bX4_hour_9 fu (0, upd r (Int32.toNatClampNeg 1) ((r (Int32.toNatClampNeg 1)) + 1))) fun (t3 : (Nat → Int32)) =>
  some t3

def rmX4_hour : Room := { frames := 1, cells := 0, slots := 0, locals := 22 }
theorem hdSX4_hour : yX4_hour.cls ≠ "java/lang/invoke/MethodHandle" ∧ yX4_hour.cls ≠ "java/lang/invoke/VarHandle" ∧ (parseMethodDescriptor yX4_hour.desc).map (fun d => d.parameters.length) = some 1 := by decide +kernel
set_option maxHeartbeats 4000000 in
set_option maxRecDepth 100000 in
theorem ctX4_hour {l : Launch} {D : va_G} {cI cJ cQ : ClassId} (da : Nat) (r : (Nat → Int32))  {res : (Nat → Int32)} (h : fX4_hour r = some res) : CtV l D cI cJ cQ yX4_hour wsX4_hour rmX4_hour [.ref da] (wAr cI da 53 r) (wAr cI da 53 res) := by
  refine ctV_of (cc := cX4_hour) (maxL := 2) (by decide) rfl (Nat.le_of_ble_eq_true rfl) ?_
  intro p e s m args below meth c A Q ls F hK hA RET hH hl
  obtain ⟨hx, hb, hml, hown, hts⟩ := id F
  have hl : lv_has ls 2 [(0, .ref da)] := hl
  have hf : wpO (fX4_hour r) (fun v => v = res) := ⟨_, h, rfl⟩
  obtain ⟨H, eH⟩ : ∃ H, H = s.heap := ⟨_, rfl⟩
  obtain ⟨locs, eL⟩ : ∃ locs : List Loc, locs = [] := ⟨_, rfl⟩
  have hH : Hs D A s.heap (wAr cI da 53 r) H locs := by rw [eH, eL]; exact hH
  rw [← eL]
  suffices hgo : W p l e rmX4_hour s m args below meth c H locs 0 0 Q (F0 m 0 ls []) by rw [eH] at hgo; exact hgo
  clear eH eL
  refine lv_aload_n hx hb dX4_hour_0 rfl (lv_at hl 0 rfl) ?_
  refine lv_iconst (v := 1) hx hb dX4_hour_1 (by decide) ?_
  refine lv_dup2_11 hx hb dX4_hour_2 rfl rfl ?_
  refine k_iald (f := r) (n := 53) F hK hH 0 dX4_hour_3 (by decide) rfl ?_
  refine lv_iconst (v := 1) hx hb dX4_hour_4 (by decide) ?_
  refine lv_iadd hx hb dX4_hour_5 ?_
  refine k_iast (f := r) (n := 53) F hK hH 0 dX4_hour_6 (by decide) rfl (fun H locs hH => ?_)
  have hH : Hs D A s.heap (wAr cI da 53 (upd r (Int32.toNatClampNeg 1) ((r (Int32.toNatClampNeg 1)) + 1))) H locs := hH
  refine lv_iconst (v := 0) hx hb dX4_hour_7 (by decide) ?_
  refine lv_istore_n (lv' := [(1, .int 0), (0, .ref da)]) hx hb dX4_hour_8 rfl hl (by decide) rfl (fun ls hl => ?_)
  have LP : ∀ (Φ : ((Nat → Int32)) → Prop), (∀ (t3 : (Nat → Int32)) (H : Heap) (locs : List Loc) (ls : Array Slot), Φ (t3) → Hs D A s.heap (wAr cI da 53 t3) H locs → lv_has ls 2 [] → W p l e rmX4_hour s m args below meth c H locs 0 0 Q (F0 m 60 ls [])) → ∀ (n : Nat) (t1 : Int32) (t2 : (Nat → Int32)) (H : Heap) (locs : List Loc) (ls : Array Slot), wpO (lp bX4_hour_9 n (t1, t2)) Φ → Hs D A s.heap (wAr cI da 53 t2) H locs → lv_has ls 2 [(0, .ref da), (1, .int t1)] → W p l e rmX4_hour s m args below meth c H locs 0 0 Q (F0 m 9 ls []) := by
    intro Φ EX n
    induction n with
    | zero =>
      intro t1 t2 H locs ls hf hH hl
      exact (wp_l0 hf).elim
    | succ n ih =>
      intro t1 t2 H locs ls hf hH hl
      have hf := wp_l hf
      refine lv_iload_n hx hb dX4_hour_9 rfl (lv_at hl 1 rfl) ?_
      refine lv_aload_n hx hb dX4_hour_10 rfl (lv_at hl 0 rfl) ?_
      refine lv_iconst (v := 0) hx hb dX4_hour_11 (by decide) ?_
      refine k_iald (f := t2) (n := 53) F hK hH 0 dX4_hour_12 (by decide) rfl ?_
      refine lv_icmp_ge (tgt := 60) hx hb dX4_hour_13 (by decide) (fun hc => ?_) (fun hc => ?_)
      · have hf := wp_t hc hf
        have hw := wp_out hf
        exact EX _ _ _ _ hw hH (lv_sub hl [] rfl)
      · have hf := wp_f hc hf
        refine lv_aload_n hx hb dX4_hour_16 rfl (lv_at hl 0 rfl) ?_
        refine lv_iload_n hx hb dX4_hour_17 rfl (lv_at hl 1 rfl) ?_
        refine lv_iconst (v := 2) hx hb dX4_hour_18 (by decide) ?_
        obtain ⟨x4, hcl, hf⟩ := wp_b hf
        refine k_Si F hK hH hA hl.1 ⟨Nat.zero_le _, Nat.zero_le _⟩ [] [.int t1, .int 2] [.ref da] (ctX4_of t1 2 hcl) (va_cwS 2 hts gX4_hour_X4_of rfl rfl rfl hdSX4_of ⟨Nat.le_of_ble_eq_true rfl, Nat.le_of_ble_eq_true rfl⟩) dX4_hour_19 rfl rfl (Nat.le_of_ble_eq_true rfl) rfl rfl (by decide) (fun H locs hH => ?_)
        have hH : Hs D A s.heap (wAr cI da 53 t2) H locs := hH
        refine lv_aload_n hx hb dX4_hour_22 rfl (lv_at hl 0 rfl) ?_
        refine lv_iload_n hx hb dX4_hour_23 rfl (lv_at hl 1 rfl) ?_
        refine lv_iconst (v := 2) hx hb dX4_hour_24 (by decide) ?_
        obtain ⟨x5, hcl, hf⟩ := wp_b hf
        refine k_Si F hK hH hA hl.1 ⟨Nat.zero_le _, Nat.zero_le _⟩ [] [.int t1, .int 2] [.ref da, .int x4, .ref da] (ctX4_of t1 2 hcl) (va_cwS 2 hts gX4_hour_X4_of rfl rfl rfl hdSX4_of ⟨Nat.le_of_ble_eq_true rfl, Nat.le_of_ble_eq_true rfl⟩) dX4_hour_25 rfl rfl (Nat.le_of_ble_eq_true rfl) rfl rfl (by decide) (fun H locs hH => ?_)
        have hH : Hs D A s.heap (wAr cI da 53 t2) H locs := hH
        obtain ⟨hi, hf⟩ := wp_n hf
        refine k_iald (f := t2) (n := 53) F hK hH 0 dX4_hour_28 hi rfl ?_
        refine lv_aload_n hx hb dX4_hour_29 rfl (lv_at hl 0 rfl) ?_
        refine lv_iload_n hx hb dX4_hour_30 rfl (lv_at hl 1 rfl) ?_
        refine lv_iconst (v := 0) hx hb dX4_hour_31 (by decide) ?_
        obtain ⟨x6, hcl, hf⟩ := wp_b hf
        refine k_Si F hK hH hA hl.1 ⟨Nat.zero_le _, Nat.zero_le _⟩ [] [.int t1, .int 0] [.ref da, .int (t2 (Int32.toNatClampNeg x5)), .int x4, .ref da] (ctX4_of t1 0 hcl) (va_cwS 2 hts gX4_hour_X4_of rfl rfl rfl hdSX4_of ⟨Nat.le_of_ble_eq_true rfl, Nat.le_of_ble_eq_true rfl⟩) dX4_hour_32 rfl rfl (Nat.le_of_ble_eq_true rfl) rfl rfl (by decide) (fun H locs hH => ?_)
        have hH : Hs D A s.heap (wAr cI da 53 t2) H locs := hH
        obtain ⟨hi, hf⟩ := wp_n hf
        refine k_iald (f := t2) (n := 53) F hK hH 0 dX4_hour_35 hi rfl ?_
        refine lv_aload_n hx hb dX4_hour_36 rfl (lv_at hl 0 rfl) ?_
        refine lv_iload_n hx hb dX4_hour_37 rfl (lv_at hl 1 rfl) ?_
        refine lv_iconst (v := 1) hx hb dX4_hour_38 (by decide) ?_
        obtain ⟨x7, hcl, hf⟩ := wp_b hf
        refine k_Si F hK hH hA hl.1 ⟨Nat.zero_le _, Nat.zero_le _⟩ [] [.int t1, .int 1] [.ref da, .int (t2 (Int32.toNatClampNeg x6)), .int (t2 (Int32.toNatClampNeg x5)), .int x4, .ref da] (ctX4_of t1 1 hcl) (va_cwS 2 hts gX4_hour_X4_of rfl rfl rfl hdSX4_of ⟨Nat.le_of_ble_eq_true rfl, Nat.le_of_ble_eq_true rfl⟩) dX4_hour_39 rfl rfl (Nat.le_of_ble_eq_true rfl) rfl rfl (by decide) (fun H locs hH => ?_)
        have hH : Hs D A s.heap (wAr cI da 53 t2) H locs := hH
        obtain ⟨hi, hf⟩ := wp_n hf
        refine k_iald (f := t2) (n := 53) F hK hH 0 dX4_hour_42 hi rfl ?_
        refine lv_aload_n hx hb dX4_hour_43 rfl (lv_at hl 0 rfl) ?_
        refine lv_iconst (v := 1) hx hb dX4_hour_44 (by decide) ?_
        refine k_iald (f := t2) (n := 53) F hK hH 0 dX4_hour_45 (by decide) rfl ?_
        obtain ⟨x8, hcl, hf⟩ := wp_b hf
        refine k_Si F hK hH hA hl.1 ⟨Nat.zero_le _, Nat.zero_le _⟩ [] [.int (t2 (Int32.toNatClampNeg x6)), .int (t2 (Int32.toNatClampNeg x7)), .int (t2 (Int32.toNatClampNeg 1))] [.int (t2 (Int32.toNatClampNeg x5)), .int x4, .ref da] (ctX4_goesBy (t2 (Int32.toNatClampNeg x6)) (t2 (Int32.toNatClampNeg x7)) (t2 (Int32.toNatClampNeg 1)) hcl) (va_cwS 3 hts gX4_hour_X4_goesBy rfl rfl rfl hdSX4_goesBy ⟨Nat.le_of_ble_eq_true rfl, Nat.le_of_ble_eq_true rfl⟩) dX4_hour_46 rfl rfl (Nat.le_of_ble_eq_true rfl) rfl rfl (by decide) (fun H locs hH => ?_)
        have hH : Hs D A s.heap (wAr cI da 53 t2) H locs := hH
        refine lv_iadd hx hb dX4_hour_49 ?_
        refine lv_bipush (v := 16) hx hb dX4_hour_50 (by decide) ?_
        refine lv_irem hx hb dX4_hour_52 (by decide) ?_
        obtain ⟨hi, hf⟩ := wp_n hf
        refine k_iast (f := t2) (n := 53) F hK hH 0 dX4_hour_53 hi rfl (fun H locs hH => ?_)
        have hH : Hs D A s.heap (wAr cI da 53 (upd t2 (Int32.toNatClampNeg x4) (irem ((t2 (Int32.toNatClampNeg x5)) + x8) 16))) H locs := hH
        refine lv_iinc (v := t1 + 1) (lv' := [(1, .int (t1 + 1)), (0, .ref da)]) hx hb dX4_hour_54 hl (k := 1) rfl rfl (by decide) rfl (fun ls hl => ?_)
        refine lv_goto (tgt := 9) hx hb dX4_hour_57 (by decide) ?_
        have hw := wp_in hf
        exact ih _ _ _ _ _ hw hH (lv_sub hl [1, 0] rfl)
  refine LP _ (fun t3 H locs ls hf hH hl => ?_) fu _ _ _ _ _ (wp_bb hf) hH (lv_sub hl [1, 0] rfl)
  have hrs := wp_s hf
  subst hrs
  exact RET H locs ls 60 dX4_hour_60 hH

def bX4_hoursOn_2 (v1 : Int32) : (Int32 × (Nat → Int32)) → Option ((Int32 × (Nat → Int32)) ⊕ ((Nat → Int32))) := fun ((t1, t2) : Int32 × (Nat → Int32)) =>
  if v1 ≤ t1 then
    some (.inr t2)
  else
    Option.bind (fX4_hour t2) fun x4 =>
    some (.inl (t1 + 1, x4))

def fX4_hoursOn (v1 : Int32) (r : (Nat → Int32)) : Option ((Nat → Int32)) :=
  Option.bind (lp (bX4_hoursOn_2 v1) fu (0, r)) fun (t3 : (Nat → Int32)) =>
  some t3

def rmX4_hoursOn : Room := { frames := 2, cells := 0, slots := 0, locals := 43 }
theorem hdSX4_hoursOn : yX4_hoursOn.cls ≠ "java/lang/invoke/MethodHandle" ∧ yX4_hoursOn.cls ≠ "java/lang/invoke/VarHandle" ∧ (parseMethodDescriptor yX4_hoursOn.desc).map (fun d => d.parameters.length) = some 2 := by decide +kernel
set_option maxHeartbeats 4000000 in
set_option maxRecDepth 100000 in
theorem ctX4_hoursOn {l : Launch} {D : va_G} {cI cJ cQ : ClassId} (da : Nat) (r : (Nat → Int32)) (v1 : Int32) {res : (Nat → Int32)} (h : fX4_hoursOn v1 r = some res) : CtV l D cI cJ cQ yX4_hoursOn wsX4_hoursOn rmX4_hoursOn [.ref da, .int v1] (wAr cI da 53 r) (wAr cI da 53 res) := by
  refine ctV_of (cc := cX4_hoursOn) (maxL := 3) (by decide) rfl (Nat.le_of_ble_eq_true rfl) ?_
  intro p e s m args below meth c A Q ls F hK hA RET hH hl
  obtain ⟨hx, hb, hml, hown, hts⟩ := id F
  have hl : lv_has ls 3 [(0, .ref da), (1, .int v1)] := hl
  have hf : wpO (fX4_hoursOn v1 r) (fun v => v = res) := ⟨_, h, rfl⟩
  obtain ⟨H, eH⟩ : ∃ H, H = s.heap := ⟨_, rfl⟩
  obtain ⟨locs, eL⟩ : ∃ locs : List Loc, locs = [] := ⟨_, rfl⟩
  have hH : Hs D A s.heap (wAr cI da 53 r) H locs := by rw [eH, eL]; exact hH
  rw [← eL]
  suffices hgo : W p l e rmX4_hoursOn s m args below meth c H locs 0 0 Q (F0 m 0 ls []) by rw [eH] at hgo; exact hgo
  clear eH eL
  refine lv_iconst (v := 0) hx hb dX4_hoursOn_0 (by decide) ?_
  refine lv_istore_n (lv' := [(2, .int 0), (0, .ref da), (1, .int v1)]) hx hb dX4_hoursOn_1 rfl hl (by decide) rfl (fun ls hl => ?_)
  have LP : ∀ (Φ : ((Nat → Int32)) → Prop), (∀ (t3 : (Nat → Int32)) (H : Heap) (locs : List Loc) (ls : Array Slot), Φ (t3) → Hs D A s.heap (wAr cI da 53 t3) H locs → lv_has ls 3 [] → W p l e rmX4_hoursOn s m args below meth c H locs 0 0 Q (F0 m 17 ls [])) → ∀ (n : Nat) (t1 : Int32) (t2 : (Nat → Int32)) (H : Heap) (locs : List Loc) (ls : Array Slot), wpO (lp (bX4_hoursOn_2 v1) n (t1, t2)) Φ → Hs D A s.heap (wAr cI da 53 t2) H locs → lv_has ls 3 [(0, .ref da), (1, .int v1), (2, .int t1)] → W p l e rmX4_hoursOn s m args below meth c H locs 0 0 Q (F0 m 2 ls []) := by
    intro Φ EX n
    induction n with
    | zero =>
      intro t1 t2 H locs ls hf hH hl
      exact (wp_l0 hf).elim
    | succ n ih =>
      intro t1 t2 H locs ls hf hH hl
      have hf := wp_l hf
      refine lv_iload_n hx hb dX4_hoursOn_2 rfl (lv_at hl 2 rfl) ?_
      refine lv_iload_n hx hb dX4_hoursOn_3 rfl (lv_at hl 1 rfl) ?_
      refine lv_icmp_ge (tgt := 17) hx hb dX4_hoursOn_4 (by decide) (fun hc => ?_) (fun hc => ?_)
      · have hf := wp_t hc hf
        have hw := wp_out hf
        exact EX _ _ _ _ hw hH (lv_sub hl [] rfl)
      · have hf := wp_f hc hf
        refine lv_aload_n hx hb dX4_hoursOn_7 rfl (lv_at hl 0 rfl) ?_
        obtain ⟨x4, hcl, hf⟩ := wp_b hf
        refine k_Sv F hK hH hA hl.1 ⟨Nat.zero_le _, Nat.zero_le _⟩ [0] [.ref da] [] (ctX4_hour da t2 hcl) (va_cwS 1 hts gX4_hoursOn_X4_hour rfl rfl rfl hdSX4_hour ⟨Nat.le_of_ble_eq_true rfl, Nat.le_of_ble_eq_true rfl⟩) dX4_hoursOn_8 rfl rfl (Nat.le_of_ble_eq_true rfl) rfl rfl (by decide) (fun H locs hH => ?_)
        have hH : Hs D A s.heap (wAr cI da 53 x4) H locs := hH
        refine lv_iinc (v := t1 + 1) (lv' := [(2, .int (t1 + 1)), (0, .ref da), (1, .int v1)]) hx hb dX4_hoursOn_11 hl (k := 2) rfl rfl (by decide) rfl (fun ls hl => ?_)
        refine lv_goto (tgt := 2) hx hb dX4_hoursOn_14 (by decide) ?_
        have hw := wp_in hf
        exact ih _ _ _ _ _ hw hH (lv_sub hl [1, 2, 0] rfl)
  refine LP _ (fun t3 H locs ls hf hH hl => ?_) fu _ _ _ _ _ (wp_bb hf) hH (lv_sub hl [1, 2, 0] rfl)
  have hrs := wp_s hf
  subst hrs
  exact RET H locs ls 17 dX4_hoursOn_17 hH

def fX4_letter (v1 : Int32) (xl : (Nat → Int32)) (xe : (Nat → Int32)) (xn : Int32) : Option (Int32 × (Nat → Int32) × (Nat → Int32) × Int32) :=
  if (0 : Int32) ≤ v1 then
    if (255 : Int32) < v1 then
      Option.bind (fX4_no (-6) xe) fun x1 =>
      some (x1.1, xl, x1.2, xn)
    else
      if xn = 96 then
        Option.bind (fX4_no (-6) xe) fun x2 =>
        some (x2.1, xl, x2.2, xn)
      else
        if ob xn 96 then none else
        some (xn + 1, upd xl (Int32.toNatClampNeg xn) v1, xe, xn + 1)
  else
    Option.bind (fX4_no (-4) xe) fun x3 =>
    some (x3.1, xl, x3.2, xn)

def rmX4_letter : Room := { frames := 1, cells := 0, slots := 0, locals := 21 }
theorem mbX4_letter_f80 : Cond.fieldLink RX4 80 (TX4 8).1 (TX4 8).2.1 (TX4 8).2.2.1 ∈ wsX4_letter := by decide +kernel
theorem inX4_letter_X4 : ∀ w ∈ wsX40, w ∈ wsX4_letter := by decide +kernel
theorem mbX4_letter_f22 : Cond.fieldLink RX4 22 (TX4 5).1 (TX4 5).2.1 (TX4 5).2.2.1 ∈ wsX4_letter := by decide +kernel
theorem hdVX4_letter : yX4_letter.cls = RX4 ∧ yX4_letter.cls ≠ "java/lang/invoke/MethodHandle" ∧ yX4_letter.cls ≠ "java/lang/invoke/VarHandle" ∧ (parseMethodDescriptor yX4_letter.desc).map (fun d => d.parameters.length) = some 1 := by decide +kernel
set_option maxHeartbeats 4000000 in
set_option maxRecDepth 100000 in
theorem ctX4_letter {l : Launch} {D : va_G} {cI cJ cQ : ClassId} (ad : Nat → Nat) (xs : (Nat → Int32)) (xm : (Nat → Int32)) (xi : (Nat → Int32)) (xw : (Nat → Int32)) (xh : Int32) (xl : (Nat → Int32)) (xr : (Nat → Int32)) (xe : (Nat → Int32)) (xn : Int32) (xo : Int32) (xp : Int32) (xu : (Nat → Int32)) (xd : Int32) (v1 : Int32) {res : Int32 × (Nat → Int32) × (Nat → Int32) × Int32} (h : fX4_letter v1 xl xe xn = some res) : CtI l D cI cJ cQ yX4_letter wsX4_letter rmX4_letter [.ref (ad 0), .int v1] (wMd cI ad xs xm xi xw xh xl xr xe xn xo xp xu xd) res.1 (wMd cI ad xs xm xi xw xh res.2.1 xr res.2.2.1 res.2.2.2 xo xp xu xd) := by
  refine ctI_of .int (cc := cX4_letter) (maxL := 2) (by decide) rfl (Nat.le_of_ble_eq_true rfl) ?_
  intro p e s m args below meth c A Q ls F hK hA RET hH hl
  obtain ⟨hx, hb, hml, hown, hts⟩ := id F
  have hl : lv_has ls 2 [(0, .ref (ad 0)), (1, .int v1)] := hl
  have hf : wpO (fX4_letter v1 xl xe xn) (fun v => v = res) := ⟨_, h, rfl⟩
  obtain ⟨H, eH⟩ : ∃ H, H = s.heap := ⟨_, rfl⟩
  obtain ⟨locs, eL⟩ : ∃ locs : List Loc, locs = [] := ⟨_, rfl⟩
  have hH : Hs D A s.heap (wMd cI ad xs xm xi xw xh xl xr xe xn xo xp xu xd) H locs := by rw [eH, eL]; exact hH
  rw [← eL]
  suffices hgo : W p l e rmX4_letter s m args below meth c H locs 0 0 Q (F0 m 0 ls []) by rw [eH] at hgo; exact hgo
  clear eH eL
  refine lv_iload_n hx hb dX4_letter_0 rfl (lv_at hl 1 rfl) ?_
  refine lv_if_ge (tgt := 11) hx hb dX4_letter_1 (by decide) (fun hc => ?_) (fun hc => ?_)
  · have hf := wp_t hc hf
    refine lv_iload_n hx hb dX4_letter_11 rfl (lv_at hl 1 rfl) ?_
    refine lv_sipush (v := 255) hx hb dX4_letter_12 (by decide) ?_
    refine lv_icmp_gt (tgt := 27) hx hb dX4_letter_15 (by decide) (fun hc => ?_) (fun hc => ?_)
    · have hf := wp_t hc hf
      refine lv_aload_n hx hb dX4_letter_27 rfl (lv_at hl 0 rfl) ?_
      refine lv_bipush (v := (-6)) hx hb dX4_letter_28 (by decide) ?_
      obtain ⟨x1, hcl, hf⟩ := wp_b hf
      refine k_Vi0 F hK hH hA hl.1 ⟨Nat.zero_le _, Nat.zero_le _⟩ [.int (-6)] [] (ctX4_no ad xs xm xi xw xh xl xr xe xn xo xp xu xd (-6) hcl) (cwV 1 hts gX4_letter_X4_no rfl rfl rfl hdVX4_no ⟨Nat.le_of_ble_eq_true rfl, Nat.le_of_ble_eq_true rfl⟩) dX4_letter_30 0 rfl rfl rfl rfl rfl (Nat.le_of_ble_eq_true rfl) rfl (fun H locs hH => ?_)
      have hH : Hs D A s.heap (wMd cI ad xs xm xi xw xh xl xr x1.2 xn xo xp xu xd) H locs := hH
      refine W.eq (g2 := F0 m 33 ls [.int x1.1]) rfl ?_
      have hrs := wp_s hf
      subst hrs
      exact RET H locs ls 33 dX4_letter_33 rfl hH
    · have hf := wp_f hc hf
      refine lv_aload_n hx hb dX4_letter_18 rfl (lv_at hl 0 rfl) ?_
      refine k_get (v := .int xn) F hK hH 0 inX4_letter_X4 8 mbX4_letter_f80 dX4_letter_19 rfl rfl (by decide) rfl ?_
      refine lv_bipush (v := 96) hx hb dX4_letter_22 (by decide) ?_
      refine lv_icmp_ne (tgt := 34) hx hb dX4_letter_24 (by decide) (fun hc => ?_) (fun hc => ?_)
      · have hf := wp_f hc hf
        refine lv_aload_n hx hb dX4_letter_34 rfl (lv_at hl 0 rfl) ?_
        refine k_get (v := .ref (ad 5)) F hK hH 0 inX4_letter_X4 5 mbX4_letter_f22 dX4_letter_35 rfl rfl (by decide) rfl ?_
        refine lv_aload_n hx hb dX4_letter_38 rfl (lv_at hl 0 rfl) ?_
        refine k_get (v := .int xn) F hK hH 0 inX4_letter_X4 8 mbX4_letter_f80 dX4_letter_39 rfl rfl (by decide) rfl ?_
        refine lv_iload_n hx hb dX4_letter_42 rfl (lv_at hl 1 rfl) ?_
        obtain ⟨hi, hf⟩ := wp_n hf
        refine k_iast (f := xl) (n := 96) F hK hH 5 dX4_letter_43 hi rfl (fun H locs hH => ?_)
        have hH : Hs D A s.heap (wMd cI ad xs xm xi xw xh (upd xl (Int32.toNatClampNeg xn) v1) xr xe xn xo xp xu xd) H locs := hH
        refine lv_aload_n hx hb dX4_letter_44 rfl (lv_at hl 0 rfl) ?_
        refine lv_dup hx hb dX4_letter_45 rfl ?_
        refine k_get (v := .int xn) F hK hH 0 inX4_letter_X4 8 mbX4_letter_f80 dX4_letter_46 rfl rfl (by decide) rfl ?_
        refine lv_iconst (v := 1) hx hb dX4_letter_49 (by decide) ?_
        refine lv_iadd hx hb dX4_letter_50 ?_
        refine k_put (v := .int (xn + 1)) F hK hH 0 inX4_letter_X4 tyX4 tyX4_ok nmX4 8 mbX4_letter_f80 dX4_letter_51 rfl rfl (by decide) rfl rfl rfl (Nat.le_of_ble_eq_true rfl) (fun H locs hH => ?_)
        have hH : Hs D A s.heap (wMd cI ad xs xm xi xw xh (upd xl (Int32.toNatClampNeg xn) v1) xr xe (xn + 1) xo xp xu xd) H locs := hH
        refine lv_aload_n hx hb dX4_letter_54 rfl (lv_at hl 0 rfl) ?_
        refine k_get (v := .int (xn + 1)) F hK hH 0 inX4_letter_X4 8 mbX4_letter_f80 dX4_letter_55 rfl rfl (by decide) rfl ?_
        have hrs := wp_s hf
        subst hrs
        exact RET H locs ls 58 dX4_letter_58 rfl hH
      · have hf := wp_t hc hf
        refine lv_aload_n hx hb dX4_letter_27 rfl (lv_at hl 0 rfl) ?_
        refine lv_bipush (v := (-6)) hx hb dX4_letter_28 (by decide) ?_
        obtain ⟨x2, hcl, hf⟩ := wp_b hf
        refine k_Vi0 F hK hH hA hl.1 ⟨Nat.zero_le _, Nat.zero_le _⟩ [.int (-6)] [] (ctX4_no ad xs xm xi xw xh xl xr xe xn xo xp xu xd (-6) hcl) (cwV 1 hts gX4_letter_X4_no rfl rfl rfl hdVX4_no ⟨Nat.le_of_ble_eq_true rfl, Nat.le_of_ble_eq_true rfl⟩) dX4_letter_30 0 rfl rfl rfl rfl rfl (Nat.le_of_ble_eq_true rfl) rfl (fun H locs hH => ?_)
        have hH : Hs D A s.heap (wMd cI ad xs xm xi xw xh xl xr x2.2 xn xo xp xu xd) H locs := hH
        refine W.eq (g2 := F0 m 33 ls [.int x2.1]) rfl ?_
        have hrs := wp_s hf
        subst hrs
        exact RET H locs ls 33 dX4_letter_33 rfl hH
  · have hf := wp_f hc hf
    refine lv_aload_n hx hb dX4_letter_4 rfl (lv_at hl 0 rfl) ?_
    refine lv_bipush (v := (-4)) hx hb dX4_letter_5 (by decide) ?_
    obtain ⟨x3, hcl, hf⟩ := wp_b hf
    refine k_Vi0 F hK hH hA hl.1 ⟨Nat.zero_le _, Nat.zero_le _⟩ [.int (-4)] [] (ctX4_no ad xs xm xi xw xh xl xr xe xn xo xp xu xd (-4) hcl) (cwV 1 hts gX4_letter_X4_no rfl rfl rfl hdVX4_no ⟨Nat.le_of_ble_eq_true rfl, Nat.le_of_ble_eq_true rfl⟩) dX4_letter_7 0 rfl rfl rfl rfl rfl (Nat.le_of_ble_eq_true rfl) rfl (fun H locs hH => ?_)
    have hH : Hs D A s.heap (wMd cI ad xs xm xi xw xh xl xr x3.2 xn xo xp xu xd) H locs := hH
    refine W.eq (g2 := F0 m 10 ls [.int x3.1]) rfl ?_
    have hrs := wp_s hf
    subst hrs
    exact RET H locs ls 10 dX4_letter_10 rfl hH

def fX4_here (xl : (Nat → Int32)) (xn : Int32) (xp : Int32) : Option (Int32) :=
  if xn ≤ xp then
    some (-1)
  else
    if ob xp 96 then none else
    some (xl (Int32.toNatClampNeg xp))

def rmX4_here : Room := { frames := 0, cells := 0, slots := 0, locals := 0 }
theorem mbX4_here_f84 : Cond.fieldLink RX4 84 (TX4 10).1 (TX4 10).2.1 (TX4 10).2.2.1 ∈ wsX4_here := by decide +kernel
theorem inX4_here_X4 : ∀ w ∈ wsX40, w ∈ wsX4_here := by decide +kernel
theorem mbX4_here_f80 : Cond.fieldLink RX4 80 (TX4 8).1 (TX4 8).2.1 (TX4 8).2.2.1 ∈ wsX4_here := by decide +kernel
theorem mbX4_here_f22 : Cond.fieldLink RX4 22 (TX4 5).1 (TX4 5).2.1 (TX4 5).2.2.1 ∈ wsX4_here := by decide +kernel
theorem hdVX4_here : yX4_here.cls = RX4 ∧ yX4_here.cls ≠ "java/lang/invoke/MethodHandle" ∧ yX4_here.cls ≠ "java/lang/invoke/VarHandle" ∧ (parseMethodDescriptor yX4_here.desc).map (fun d => d.parameters.length) = some 0 := by decide +kernel
set_option maxHeartbeats 4000000 in
set_option maxRecDepth 100000 in
theorem ctX4_here {l : Launch} {D : va_G} {cI cJ cQ : ClassId} (ad : Nat → Nat) (xs : (Nat → Int32)) (xm : (Nat → Int32)) (xi : (Nat → Int32)) (xw : (Nat → Int32)) (xh : Int32) (xl : (Nat → Int32)) (xr : (Nat → Int32)) (xe : (Nat → Int32)) (xn : Int32) (xo : Int32) (xp : Int32) (xu : (Nat → Int32)) (xd : Int32)  {res : Int32} (h : fX4_here xl xn xp = some res) : CtI l D cI cJ cQ yX4_here wsX4_here rmX4_here [.ref (ad 0)] (wMd cI ad xs xm xi xw xh xl xr xe xn xo xp xu xd) res (wMd cI ad xs xm xi xw xh xl xr xe xn xo xp xu xd) := by
  refine ctI_of .int (cc := cX4_here) (maxL := 1) (by decide) rfl (Nat.le_of_ble_eq_true rfl) ?_
  intro p e s m args below meth c A Q ls F hK hA RET hH hl
  obtain ⟨hx, hb, hml, hown, hts⟩ := id F
  have hl : lv_has ls 1 [(0, .ref (ad 0))] := hl
  have hf : wpO (fX4_here xl xn xp) (fun v => v = res) := ⟨_, h, rfl⟩
  obtain ⟨H, eH⟩ : ∃ H, H = s.heap := ⟨_, rfl⟩
  obtain ⟨locs, eL⟩ : ∃ locs : List Loc, locs = [] := ⟨_, rfl⟩
  have hH : Hs D A s.heap (wMd cI ad xs xm xi xw xh xl xr xe xn xo xp xu xd) H locs := by rw [eH, eL]; exact hH
  rw [← eL]
  suffices hgo : W p l e rmX4_here s m args below meth c H locs 0 0 Q (F0 m 0 ls []) by rw [eH] at hgo; exact hgo
  clear eH eL
  refine lv_aload_n hx hb dX4_here_0 rfl (lv_at hl 0 rfl) ?_
  refine k_get (v := .int xp) F hK hH 0 inX4_here_X4 10 mbX4_here_f84 dX4_here_1 rfl rfl (by decide) rfl ?_
  refine lv_aload_n hx hb dX4_here_4 rfl (lv_at hl 0 rfl) ?_
  refine k_get (v := .int xn) F hK hH 0 inX4_here_X4 8 mbX4_here_f80 dX4_here_5 rfl rfl (by decide) rfl ?_
  refine lv_icmp_ge (tgt := 23) hx hb dX4_here_8 (by decide) (fun hc => ?_) (fun hc => ?_)
  · have hf := wp_t hc hf
    refine lv_iconst (v := (-1)) hx hb dX4_here_23 (by decide) ?_
    have hrs := wp_s hf
    subst hrs
    exact RET H locs ls 24 dX4_here_24 rfl hH
  · have hf := wp_f hc hf
    refine lv_aload_n hx hb dX4_here_11 rfl (lv_at hl 0 rfl) ?_
    refine k_get (v := .ref (ad 5)) F hK hH 0 inX4_here_X4 5 mbX4_here_f22 dX4_here_12 rfl rfl (by decide) rfl ?_
    refine lv_aload_n hx hb dX4_here_15 rfl (lv_at hl 0 rfl) ?_
    refine k_get (v := .int xp) F hK hH 0 inX4_here_X4 10 mbX4_here_f84 dX4_here_16 rfl rfl (by decide) rfl ?_
    obtain ⟨hi, hf⟩ := wp_n hf
    refine k_iald (f := xl) (n := 96) F hK hH 5 dX4_here_19 hi rfl ?_
    refine lv_goto (tgt := 24) hx hb dX4_here_20 (by decide) ?_
    have hrs := wp_s hf
    subst hrs
    exact RET H locs ls 24 dX4_here_24 rfl hH

