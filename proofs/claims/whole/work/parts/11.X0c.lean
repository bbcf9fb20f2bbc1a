def fX0_verdictIn (v1 : Int32) (g : LandT) : Option (Int32) :=
  Option.bind (fX0_deciderIn v1 g) fun x1 =>
  Option.bind (fX0_hasThing x1 g) fun x2 =>
  if x2 = 0 then
    some 0
  else
    if ob x1 7 then none else
    if ob ((gK g) (Int32.toNatClampNeg x1)) 6 then none else
    some ((gV g) (Int32.toNatClampNeg ((gK g) (Int32.toNatClampNeg x1))))

def rmX0_verdictIn : Room := { frames := 2, cells := 0, slots := 0, locals := 43 }
theorem mbX0_verdictIn_f27 : Cond.fieldLink RX0 27 (TX0 5).1 (TX0 5).2.1 (TX0 5).2.2.1 ∈ wsX0_verdictIn := by decide +kernel
theorem inX0_verdictIn_X0 : ∀ w ∈ wsX00, w ∈ wsX0_verdictIn := by decide +kernel
theorem mbX0_verdictIn_f18 : Cond.fieldLink RX0 18 (TX0 2).1 (TX0 2).2.1 (TX0 2).2.2.1 ∈ wsX0_verdictIn := by decide +kernel
theorem hdVX0_verdictIn : yX0_verdictIn.cls = RX0 ∧ yX0_verdictIn.cls ≠ "java/lang/invoke/MethodHandle" ∧ yX0_verdictIn.cls ≠ "java/lang/invoke/VarHandle" ∧ (parseMethodDescriptor yX0_verdictIn.desc).map (fun d => d.parameters.length) = some 1 := by decide +kernel
set_option maxHeartbeats 4000000 in
set_option maxRecDepth 100000 in
theorem ctX0_verdictIn {l : Launch} {D : va_G} {cI cJ cQ : ClassId} (ad : Nat → Nat) (g : LandT) (v1 : Int32) {res : Int32} (h : fX0_verdictIn v1 g = some res) : CtI l D cI cJ cQ yX0_verdictIn wsX0_verdictIn rmX0_verdictIn [.ref (ad 0), .int v1] (wLd cI ad g) res (wLd cI ad g) := by
  refine ctI_of .int (cc := cX0_verdictIn) (maxL := 3) (by decide) rfl (Nat.le_of_ble_eq_true rfl) ?_
  intro p e s m args below meth c A Q ls F hK hA RET hH hl
  obtain ⟨hx, hb, hml, hown, hts⟩ := id F
  have hl : lv_has ls 3 [(0, .ref (ad 0)), (1, .int v1)] := hl
  have hf : wpO (fX0_verdictIn v1 g) (fun v => v = res) := ⟨_, h, rfl⟩
  obtain ⟨H, eH⟩ : ∃ H, H = s.heap := ⟨_, rfl⟩
  obtain ⟨locs, eL⟩ : ∃ locs : List Loc, locs = [] := ⟨_, rfl⟩
  have hH : Hs D A s.heap (wLd cI ad g) H locs := by rw [eH, eL]; exact hH
  rw [← eL]
  suffices hgo : W p l e rmX0_verdictIn s m args below meth c H locs 0 0 Q (F0 m 0 ls []) by rw [eH] at hgo; exact hgo
  clear eH eL
  refine lv_aload_n hx hb dX0_verdictIn_0 rfl (lv_at hl 0 rfl) ?_
  refine lv_iload_n hx hb dX0_verdictIn_1 rfl (lv_at hl 1 rfl) ?_
  obtain ⟨x1, hcl, hf⟩ := wp_b hf
  refine k_Vi0 F hK hH hA hl.1 ⟨Nat.zero_le _, Nat.zero_le _⟩ [.int v1] [] (ctX0_deciderIn ad g v1 hcl) (cwV 1 hts gX0_verdictIn_X0_deciderIn rfl rfl rfl hdVX0_deciderIn ⟨Nat.le_of_ble_eq_true rfl, Nat.le_of_ble_eq_true rfl⟩) dX0_verdictIn_2 0 rfl rfl rfl rfl rfl (Nat.le_of_ble_eq_true rfl) rfl (fun H locs hH => ?_)
  have hH : Hs D A s.heap (wLd cI ad g) H locs := hH
  refine lv_istore_n (lv' := [(2, .int x1), (0, .ref (ad 0)), (1, .int v1)]) hx hb dX0_verdictIn_5 rfl hl (by decide) rfl (fun ls hl => ?_)
  refine lv_aload_n hx hb dX0_verdictIn_6 rfl (lv_at hl 1 rfl) ?_
  refine lv_iload_n hx hb dX0_verdictIn_7 rfl (lv_at hl 0 rfl) ?_
  obtain ⟨x2, hcl, hf⟩ := wp_b hf
  refine k_Vi0 F hK hH hA hl.1 ⟨Nat.zero_le _, Nat.zero_le _⟩ [.int x1] [] (ctX0_hasThing ad g x1 hcl) (cwV 1 hts gX0_verdictIn_X0_hasThing rfl rfl rfl hdVX0_hasThing ⟨Nat.le_of_ble_eq_true rfl, Nat.le_of_ble_eq_true rfl⟩) dX0_verdictIn_8 0 rfl rfl rfl rfl rfl (Nat.le_of_ble_eq_true rfl) rfl (fun H locs hH => ?_)
  have hH : Hs D A s.heap (wLd cI ad g) H locs := hH
  refine lv_if_eq (tgt := 28) hx hb dX0_verdictIn_11 (by decide) (fun hc => ?_) (fun hc => ?_)
  · have hf := wp_t hc hf
    refine lv_iconst (v := 0) hx hb dX0_verdictIn_28 (by decide) ?_
    have hrs := wp_s hf
    subst hrs
    exact RET H locs ls 29 dX0_verdictIn_29 rfl hH
  · have hf := wp_f hc hf
    refine lv_aload_n hx hb dX0_verdictIn_14 rfl (lv_at hl 1 rfl) ?_
    refine k_get (v := .ref (ad 6)) F hK hH 0 inX0_verdictIn_X0 5 mbX0_verdictIn_f27 dX0_verdictIn_15 rfl rfl (by decide) rfl ?_
    refine lv_aload_n hx hb dX0_verdictIn_18 rfl (lv_at hl 1 rfl) ?_
    refine k_get (v := .ref (ad 3)) F hK hH 0 inX0_verdictIn_X0 2 mbX0_verdictIn_f18 dX0_verdictIn_19 rfl rfl (by decide) rfl ?_
    refine lv_iload_n hx hb dX0_verdictIn_22 rfl (lv_at hl 0 rfl) ?_
    obtain ⟨hi, hf⟩ := wp_n hf
    refine k_iald (f := gK g) (n := 7) F hK hH 3 dX0_verdictIn_23 hi rfl ?_
    obtain ⟨hi, hf⟩ := wp_n hf
    refine k_iald (f := gV g) (n := 6) F hK hH 6 dX0_verdictIn_24 hi rfl ?_
    refine lv_goto (tgt := 29) hx hb dX0_verdictIn_25 (by decide) ?_
    have hrs := wp_s hf
    subst hrs
    exact RET H locs ls 29 dX0_verdictIn_29 rfl hH

def fX0_verdictFrom (v1 : Int32) (g : LandT) : Option (Int32) :=
  Option.bind (fX0_sightFrom v1 g) fun x1 =>
  Option.bind (fX0_verdictIn x1 g) fun x2 =>
  some x2

def rmX0_verdictFrom : Room := { frames := 4, cells := 0, slots := 0, locals := 89 }
theorem hdVX0_verdictFrom : yX0_verdictFrom.cls = RX0 ∧ yX0_verdictFrom.cls ≠ "java/lang/invoke/MethodHandle" ∧ yX0_verdictFrom.cls ≠ "java/lang/invoke/VarHandle" ∧ (parseMethodDescriptor yX0_verdictFrom.desc).map (fun d => d.parameters.length) = some 1 := by decide +kernel
set_option maxHeartbeats 4000000 in
set_option maxRecDepth 100000 in
theorem ctX0_verdictFrom {l : Launch} {D : va_G} {cI cJ cQ : ClassId} (ad : Nat → Nat) (g : LandT) (v1 : Int32) {res : Int32} (h : fX0_verdictFrom v1 g = some res) : CtI l D cI cJ cQ yX0_verdictFrom wsX0_verdictFrom rmX0_verdictFrom [.ref (ad 0), .int v1] (wLd cI ad g) res (wLd cI ad g) := by
  refine ctI_of .int (cc := cX0_verdictFrom) (maxL := 2) (by decide) rfl (Nat.le_of_ble_eq_true rfl) ?_
  intro p e s m args below meth c A Q ls F hK hA RET hH hl
  obtain ⟨hx, hb, hml, hown, hts⟩ := id F
  have hl : lv_has ls 2 [(0, .ref (ad 0)), (1, .int v1)] := hl
  have hf : wpO (fX0_verdictFrom v1 g) (fun v => v = res) := ⟨_, h, rfl⟩
  obtain ⟨H, eH⟩ : ∃ H, H = s.heap := ⟨_, rfl⟩
  obtain ⟨locs, eL⟩ : ∃ locs : List Loc, locs = [] := ⟨_, rfl⟩
  have hH : Hs D A s.heap (wLd cI ad g) H locs := by rw [eH, eL]; exact hH
  rw [← eL]
  suffices hgo : W p l e rmX0_verdictFrom s m args below meth c H locs 0 0 Q (F0 m 0 ls []) by rw [eH] at hgo; exact hgo
  clear eH eL
  refine lv_aload_n hx hb dX0_verdictFrom_0 rfl (lv_at hl 0 rfl) ?_
  refine lv_aload_n hx hb dX0_verdictFrom_1 rfl (lv_at hl 0 rfl) ?_
  refine lv_iload_n hx hb dX0_verdictFrom_2 rfl (lv_at hl 1 rfl) ?_
  obtain ⟨x1, hcl, hf⟩ := wp_b hf
  refine k_Vi0 F hK hH hA hl.1 ⟨Nat.zero_le _, Nat.zero_le _⟩ [.int v1] [.ref (ad 0)] (ctX0_sightFrom ad g v1 hcl) (cwV 1 hts gX0_verdictFrom_X0_sightFrom rfl rfl rfl hdVX0_sightFrom ⟨Nat.le_of_ble_eq_true rfl, Nat.le_of_ble_eq_true rfl⟩) dX0_verdictFrom_3 0 rfl rfl rfl rfl rfl (Nat.le_of_ble_eq_true rfl) rfl (fun H locs hH => ?_)
  have hH : Hs D A s.heap (wLd cI ad g) H locs := hH
  obtain ⟨x2, hcl, hf⟩ := wp_b hf
  refine k_Vi0 F hK hH hA hl.1 ⟨Nat.zero_le _, Nat.zero_le _⟩ [.int x1] [] (ctX0_verdictIn ad g x1 hcl) (cwV 1 hts gX0_verdictFrom_X0_verdictIn rfl rfl rfl hdVX0_verdictIn ⟨Nat.le_of_ble_eq_true rfl, Nat.le_of_ble_eq_true rfl⟩) dX0_verdictFrom_6 0 rfl rfl rfl rfl rfl (Nat.le_of_ble_eq_true rfl) rfl (fun H locs hH => ?_)
  have hH : Hs D A s.heap (wLd cI ad g) H locs := hH
  have hrs := wp_s hf
  subst hrs
  exact RET H locs ls 9 dX0_verdictFrom_9 rfl hH

def bX0_branchesWith_4 (v1 : Int32) (g : LandT) : (Int32 × Int32) → Option ((Int32 × Int32) ⊕ (Int32)) := fun ((t1, t2) : Int32 × Int32) =>
  if (10 : Int32) ≤ t2 then
    some (.inr t1)
  else
    Option.bind (fX0_sightFrom t2 g) fun x4 =>
    Option.bind (fX0_verdictIn x4 g) fun x5 =>
    if x5 = v1 then
      some (.inl (t1 ||| ((1 : Int32) <<< (t2 &&& 31)), t2 + 1))
    else
      some (.inl (t1, t2 + 1))

def fX0_branchesWith (v1 : Int32) (g : LandT) : Option (Int32) :=
  Option.bind (lp (bX0_branchesWith_4 v1 g) fu (0, 0)) fun (t3 : Int32) =>
  some t3

def rmX0_branchesWith : Room := { frames := 4, cells := 0, slots := 0, locals := 89 }
theorem hdVX0_branchesWith : yX0_branchesWith.cls = RX0 ∧ yX0_branchesWith.cls ≠ "java/lang/invoke/MethodHandle" ∧ yX0_branchesWith.cls ≠ "java/lang/invoke/VarHandle" ∧ (parseMethodDescriptor yX0_branchesWith.desc).map (fun d => d.parameters.length) = some 1 := by decide +kernel
set_option maxHeartbeats 4000000 in
set_option maxRecDepth 100000 in
theorem ctX0_branchesWith {l : Launch} {D : va_G} {cI cJ cQ : ClassId} (ad : Nat → Nat) (g : LandT) (v1 : Int32) {res : Int32} (h : fX0_branchesWith v1 g = some res) : CtI l D cI cJ cQ yX0_branchesWith wsX0_branchesWith rmX0_branchesWith [.ref (ad 0), .int v1] (wLd cI ad g) res (wLd cI ad g) := by
  refine ctI_of .int (cc := cX0_branchesWith) (maxL := 4) (by decide) rfl (Nat.le_of_ble_eq_true rfl) ?_
  intro p e s m args below meth c A Q ls F hK hA RET hH hl
  obtain ⟨hx, hb, hml, hown, hts⟩ := id F
  have hl : lv_has ls 4 [(0, .ref (ad 0)), (1, .int v1)] := hl
  have hf : wpO (fX0_branchesWith v1 g) (fun v => v = res) := ⟨_, h, rfl⟩
  obtain ⟨H, eH⟩ : ∃ H, H = s.heap := ⟨_, rfl⟩
  obtain ⟨locs, eL⟩ : ∃ locs : List Loc, locs = [] := ⟨_, rfl⟩
  have hH : Hs D A s.heap (wLd cI ad g) H locs := by rw [eH, eL]; exact hH
  rw [← eL]
  suffices hgo : W p l e rmX0_branchesWith s m args below meth c H locs 0 0 Q (F0 m 0 ls []) by rw [eH] at hgo; exact hgo
  clear eH eL
  refine lv_iconst (v := 0) hx hb dX0_branchesWith_0 (by decide) ?_
  refine lv_istore_n (lv' := [(2, .int 0), (0, .ref (ad 0)), (1, .int v1)]) hx hb dX0_branchesWith_1 rfl hl (by decide) rfl (fun ls hl => ?_)
  refine lv_iconst (v := 0) hx hb dX0_branchesWith_2 (by decide) ?_
  refine lv_istore_n (lv' := [(3, .int 0), (2, .int 0), (0, .ref (ad 0)), (1, .int v1)]) hx hb dX0_branchesWith_3 rfl hl (by decide) rfl (fun ls hl => ?_)
  have LP : ∀ (Φ : (Int32) → Prop), (∀ (t3 : Int32) (H : Heap) (locs : List Loc) (ls : Array Slot), Φ (t3) → Hs D A s.heap (wLd cI ad g) H locs → lv_has ls 4 [(2, .int t3)] → W p l e rmX0_branchesWith s m args below meth c H locs 0 0 Q (F0 m 35 ls [])) → ∀ (n : Nat) (t1 : Int32) (t2 : Int32) (H : Heap) (locs : List Loc) (ls : Array Slot), wpO (lp (bX0_branchesWith_4 v1 g) n (t1, t2)) Φ → Hs D A s.heap (wLd cI ad g) H locs → lv_has ls 4 [(0, .ref (ad 0)), (1, .int v1), (2, .int t1), (3, .int t2)] → W p l e rmX0_branchesWith s m args below meth c H locs 0 0 Q (F0 m 4 ls []) := by
    intro Φ EX n
    induction n with
    | zero =>
      intro t1 t2 H locs ls hf hH hl
      exact (wp_l0 hf).elim
    | succ n ih =>
      intro t1 t2 H locs ls hf hH hl
      have hf := wp_l hf
      refine lv_iload_n hx hb dX0_branchesWith_4 rfl (lv_at hl 3 rfl) ?_
      refine lv_bipush (v := 10) hx hb dX0_branchesWith_5 (by decide) ?_
      refine lv_icmp_ge (tgt := 35) hx hb dX0_branchesWith_7 (by decide) (fun hc => ?_) (fun hc => ?_)
      · have hf := wp_t hc hf
        have hw := wp_out hf
        exact EX _ _ _ _ hw hH (lv_sub hl [2] rfl)
      · have hf := wp_f hc hf
        refine lv_aload_n hx hb dX0_branchesWith_10 rfl (lv_at hl 0 rfl) ?_
        refine lv_aload_n hx hb dX0_branchesWith_11 rfl (lv_at hl 0 rfl) ?_
        refine lv_iload_n hx hb dX0_branchesWith_12 rfl (lv_at hl 3 rfl) ?_
        obtain ⟨x4, hcl, hf⟩ := wp_b hf
        refine k_Vi0 F hK hH hA hl.1 ⟨Nat.zero_le _, Nat.zero_le _⟩ [.int t2] [.ref (ad 0)] (ctX0_sightFrom ad g t2 hcl) (cwV 1 hts gX0_branchesWith_X0_sightFrom rfl rfl rfl hdVX0_sightFrom ⟨Nat.le_of_ble_eq_true rfl, Nat.le_of_ble_eq_true rfl⟩) dX0_branchesWith_13 0 rfl rfl rfl rfl rfl (Nat.le_of_ble_eq_true rfl) rfl (fun H locs hH => ?_)
        have hH : Hs D A s.heap (wLd cI ad g) H locs := hH
        obtain ⟨x5, hcl, hf⟩ := wp_b hf
        refine k_Vi0 F hK hH hA hl.1 ⟨Nat.zero_le _, Nat.zero_le _⟩ [.int x4] [] (ctX0_verdictIn ad g x4 hcl) (cwV 1 hts gX0_branchesWith_X0_verdictIn rfl rfl rfl hdVX0_verdictIn ⟨Nat.le_of_ble_eq_true rfl, Nat.le_of_ble_eq_true rfl⟩) dX0_branchesWith_16 0 rfl rfl rfl rfl rfl (Nat.le_of_ble_eq_true rfl) rfl (fun H locs hH => ?_)
        have hH : Hs D A s.heap (wLd cI ad g) H locs := hH
        refine lv_iload_n hx hb dX0_branchesWith_19 rfl (lv_at hl 1 rfl) ?_
        refine lv_icmp_ne (tgt := 29) hx hb dX0_branchesWith_20 (by decide) (fun hc => ?_) (fun hc => ?_)
        · have hf := wp_f hc hf
          refine lv_iinc (v := t2 + 1) (lv' := [(3, .int (t2 + 1)), (0, .ref (ad 0)), (1, .int v1), (2, .int t1)]) hx hb dX0_branchesWith_29 hl (k := 3) rfl rfl (by decide) rfl (fun ls hl => ?_)
          refine lv_goto (tgt := 4) hx hb dX0_branchesWith_32 (by decide) ?_
          have hw := wp_in hf
          exact ih _ _ _ _ _ hw hH (lv_sub hl [1, 2, 3, 0] rfl)
        · have hf := wp_t hc hf
          refine lv_iload_n hx hb dX0_branchesWith_23 rfl (lv_at hl 2 rfl) ?_
          refine lv_iconst (v := 1) hx hb dX0_branchesWith_24 (by decide) ?_
          refine lv_iload_n hx hb dX0_branchesWith_25 rfl (lv_at hl 3 rfl) ?_
          refine lv_ishl hx hb dX0_branchesWith_26 ?_
          refine lv_ior hx hb dX0_branchesWith_27 ?_
          refine lv_istore_n (lv' := [(2, .int (t1 ||| ((1 : Int32) <<< (t2 &&& 31)))), (0, .ref (ad 0)), (1, .int v1), (3, .int t2)]) hx hb dX0_branchesWith_28 rfl hl (by decide) rfl (fun ls hl => ?_)
          refine lv_iinc (v := t2 + 1) (lv' := [(3, .int (t2 + 1)), (2, .int (t1 ||| ((1 : Int32) <<< (t2 &&& 31)))), (0, .ref (ad 0)), (1, .int v1)]) hx hb dX0_branchesWith_29 hl (k := 3) rfl rfl (by decide) rfl (fun ls hl => ?_)
          refine lv_goto (tgt := 4) hx hb dX0_branchesWith_32 (by decide) ?_
          have hw := wp_in hf
          exact ih _ _ _ _ _ hw hH (lv_sub hl [2, 3, 1, 0] rfl)
  refine LP _ (fun t3 H locs ls hf hH hl => ?_) fu _ _ _ _ _ (wp_bb hf) hH (lv_sub hl [2, 3, 1, 0] rfl)
  refine lv_iload_n hx hb dX0_branchesWith_35 rfl (lv_at hl 0 rfl) ?_
  have hrs := wp_s hf
  subst hrs
  exact RET H locs ls 36 dX0_branchesWith_36 rfl hH

def bX0_differsAbove_10 (g : LandT) (x1 : Int32) : (Int32) → Option ((Int32) ⊕ ((Int32) ⊕ (Unit))) := fun (t2 : Int32) =>
  if (10 : Int32) ≤ t2 then
    some (.inr (.inr ()))
  else
    Option.bind (fX0_verdictFrom t2 g) fun x3 =>
    if x3 = x1 then
      some (.inl (t2 + 1))
    else
      some (.inr (.inl t2))

def fX0_differsAbove (v1 : Int32) (g : LandT) : Option (Int32) :=
  Option.bind (fX0_verdictFrom v1 g) fun x1 =>
  Option.bind (lp (bX0_differsAbove_10 g x1) fu (v1 + 1)) (el (fun v => some v) (fun (_ : Unit) =>
    some (-9)))

def rmX0_differsAbove : Room := { frames := 5, cells := 0, slots := 0, locals := 110 }
theorem hdVX0_differsAbove : yX0_differsAbove.cls = RX0 ∧ yX0_differsAbove.cls ≠ "java/lang/invoke/MethodHandle" ∧ yX0_differsAbove.cls ≠ "java/lang/invoke/VarHandle" ∧ (parseMethodDescriptor yX0_differsAbove.desc).map (fun d => d.parameters.length) = some 1 := by decide +kernel
set_option maxHeartbeats 4000000 in
set_option maxRecDepth 100000 in
theorem ctX0_differsAbove {l : Launch} {D : va_G} {cI cJ cQ : ClassId} (ad : Nat → Nat) (g : LandT) (v1 : Int32) {res : Int32} (h : fX0_differsAbove v1 g = some res) : CtI l D cI cJ cQ yX0_differsAbove wsX0_differsAbove rmX0_differsAbove [.ref (ad 0), .int v1] (wLd cI ad g) res (wLd cI ad g) := by
  refine ctI_of .int (cc := cX0_differsAbove) (maxL := 4) (by decide) rfl (Nat.le_of_ble_eq_true rfl) ?_
  intro p e s m args below meth c A Q ls F hK hA RET hH hl
  obtain ⟨hx, hb, hml, hown, hts⟩ := id F
  have hl : lv_has ls 4 [(0, .ref (ad 0)), (1, .int v1)] := hl
  have hf : wpO (fX0_differsAbove v1 g) (fun v => v = res) := ⟨_, h, rfl⟩
  obtain ⟨H, eH⟩ : ∃ H, H = s.heap := ⟨_, rfl⟩
  obtain ⟨locs, eL⟩ : ∃ locs : List Loc, locs = [] := ⟨_, rfl⟩
  have hH : Hs D A s.heap (wLd cI ad g) H locs := by rw [eH, eL]; exact hH
  rw [← eL]
  suffices hgo : W p l e rmX0_differsAbove s m args below meth c H locs 0 0 Q (F0 m 0 ls []) by rw [eH] at hgo; exact hgo
  clear eH eL
  refine lv_aload_n hx hb dX0_differsAbove_0 rfl (lv_at hl 0 rfl) ?_
  refine lv_iload_n hx hb dX0_differsAbove_1 rfl (lv_at hl 1 rfl) ?_
  obtain ⟨x1, hcl, hf⟩ := wp_b hf
  refine k_Vi0 F hK hH hA hl.1 ⟨Nat.zero_le _, Nat.zero_le _⟩ [.int v1] [] (ctX0_verdictFrom ad g v1 hcl) (cwV 1 hts gX0_differsAbove_X0_verdictFrom rfl rfl rfl hdVX0_verdictFrom ⟨Nat.le_of_ble_eq_true rfl, Nat.le_of_ble_eq_true rfl⟩) dX0_differsAbove_2 0 rfl rfl rfl rfl rfl (Nat.le_of_ble_eq_true rfl) rfl (fun H locs hH => ?_)
  have hH : Hs D A s.heap (wLd cI ad g) H locs := hH
  refine lv_istore_n (lv' := [(2, .int x1), (0, .ref (ad 0)), (1, .int v1)]) hx hb dX0_differsAbove_5 rfl hl (by decide) rfl (fun ls hl => ?_)
  refine lv_iload_n hx hb dX0_differsAbove_6 rfl (lv_at hl 2 rfl) ?_
  refine lv_iconst (v := 1) hx hb dX0_differsAbove_7 (by decide) ?_
  refine lv_iadd hx hb dX0_differsAbove_8 ?_
  refine lv_istore_n (lv' := [(3, .int (v1 + 1)), (2, .int x1), (0, .ref (ad 0)), (1, .int v1)]) hx hb dX0_differsAbove_9 rfl hl (by decide) rfl (fun ls hl => ?_)
  have LP : ∀ (Φ : ((Int32) ⊕ (Unit)) → Prop), (∀ v : Int32, Φ (.inl v) → v = res) → (∀ (_ : Unit) (H : Heap) (locs : List Loc) (ls : Array Slot), Φ (.inr ()) → Hs D A s.heap (wLd cI ad g) H locs → lv_has ls 4 [] → W p l e rmX0_differsAbove s m args below meth c H locs 0 0 Q (F0 m 33 ls [])) → ∀ (n : Nat) (t2 : Int32) (H : Heap) (locs : List Loc) (ls : Array Slot), wpO (lp (bX0_differsAbove_10 g x1) n t2) Φ → Hs D A s.heap (wLd cI ad g) H locs → lv_has ls 4 [(0, .ref (ad 0)), (2, .int x1), (3, .int t2)] → W p l e rmX0_differsAbove s m args below meth c H locs 0 0 Q (F0 m 10 ls []) := by
    intro Φ hret EX n
    induction n with
    | zero =>
      intro t2 H locs ls hf hH hl
      exact (wp_l0 hf).elim
    | succ n ih =>
      intro t2 H locs ls hf hH hl
      have hf := wp_l hf
      refine lv_iload_n hx hb dX0_differsAbove_10 rfl (lv_at hl 2 rfl) ?_
      refine lv_bipush (v := 10) hx hb dX0_differsAbove_11 (by decide) ?_
      refine lv_icmp_ge (tgt := 33) hx hb dX0_differsAbove_13 (by decide) (fun hc => ?_) (fun hc => ?_)
      · have hf := wp_t hc hf
        have hw := wp_out hf
        exact EX () _ _ _ hw hH (lv_sub hl [] rfl)
      · have hf := wp_f hc hf
        refine lv_aload_n hx hb dX0_differsAbove_16 rfl (lv_at hl 0 rfl) ?_
        refine lv_iload_n hx hb dX0_differsAbove_17 rfl (lv_at hl 2 rfl) ?_
        obtain ⟨x3, hcl, hf⟩ := wp_b hf
        refine k_Vi0 F hK hH hA hl.1 ⟨Nat.zero_le _, Nat.zero_le _⟩ [.int t2] [] (ctX0_verdictFrom ad g t2 hcl) (cwV 1 hts gX0_differsAbove_X0_verdictFrom rfl rfl rfl hdVX0_verdictFrom ⟨Nat.le_of_ble_eq_true rfl, Nat.le_of_ble_eq_true rfl⟩) dX0_differsAbove_18 0 rfl rfl rfl rfl rfl (Nat.le_of_ble_eq_true rfl) rfl (fun H locs hH => ?_)
        have hH : Hs D A s.heap (wLd cI ad g) H locs := hH
        refine lv_iload_n hx hb dX0_differsAbove_21 rfl (lv_at hl 1 rfl) ?_
        refine lv_icmp_eq (tgt := 27) hx hb dX0_differsAbove_22 (by decide) (fun hc => ?_) (fun hc => ?_)
        · have hf := wp_t hc hf
          refine lv_iinc (v := t2 + 1) (lv' := [(3, .int (t2 + 1)), (0, .ref (ad 0)), (2, .int x1)]) hx hb dX0_differsAbove_27 hl (k := 2) rfl rfl (by decide) rfl (fun ls hl => ?_)
          refine lv_goto (tgt := 10) hx hb dX0_differsAbove_30 (by decide) ?_
          have hw := wp_in hf
          exact ih _ _ _ _ hw hH (lv_sub hl [1, 2, 0] rfl)
        · have hf := wp_f hc hf
          refine lv_iload_n hx hb dX0_differsAbove_25 rfl (lv_at hl 2 rfl) ?_
          have hrs := hret _ (wp_out hf)
          subst hrs
          exact RET H locs ls 26 dX0_differsAbove_26 rfl hH
  refine LP _ (fun v hv => by have h9 := wp_s hv; exact h9) (fun _ H locs ls hf hH hl => ?_) fu _ _ _ _ (wp_bb hf) hH (lv_sub hl [2, 1, 0] rfl)
  refine lv_bipush (v := (-9)) hx hb dX0_differsAbove_33 (by decide) ?_
  have hrs := wp_s hf
  subst hrs
  exact RET H locs ls 35 dX0_differsAbove_35 rfl hH

def bX0_farthestIn_8 (v1 : Int32) (g : LandT) : (Int32 × Int32 × Int32) → Option ((Int32 × Int32 × Int32) ⊕ (Int32)) := fun ((t1, t2, t3) : Int32 × Int32 × Int32) =>
  if (gN g) ≤ t3 then
    some (.inr t1)
  else
    if ((v1 >>> (t3 &&& 31)) &&& 1) = 1 then
      if ob t3 7 then none else
      if ((gP g) (Int32.toNatClampNeg t3)) ≤ t2 then
        some (.inl (t1, t2, t3 + 1))
      else
        if ob t3 7 then none else
        some (.inl (t3, (gP g) (Int32.toNatClampNeg t3), t3 + 1))
    else
      some (.inl (t1, t2, t3 + 1))

def fX0_farthestIn (v1 : Int32) (g : LandT) : Option (Int32) :=
  Option.bind (lp (bX0_farthestIn_8 v1 g) fu ((-9), (-1), 0)) fun (t4 : Int32) =>
  some t4

def rmX0_farthestIn : Room := { frames := 0, cells := 0, slots := 0, locals := 0 }
theorem mbX0_farthestIn_f43 : Cond.fieldLink RX0 43 (TX0 7).1 (TX0 7).2.1 (TX0 7).2.2.1 ∈ wsX0_farthestIn := by decide +kernel
theorem inX0_farthestIn_X0 : ∀ w ∈ wsX00, w ∈ wsX0_farthestIn := by decide +kernel
theorem mbX0_farthestIn_f24 : Cond.fieldLink RX0 24 (TX0 4).1 (TX0 4).2.1 (TX0 4).2.2.1 ∈ wsX0_farthestIn := by decide +kernel
theorem hdVX0_farthestIn : yX0_farthestIn.cls = RX0 ∧ yX0_farthestIn.cls ≠ "java/lang/invoke/MethodHandle" ∧ yX0_farthestIn.cls ≠ "java/lang/invoke/VarHandle" ∧ (parseMethodDescriptor yX0_farthestIn.desc).map (fun d => d.parameters.length) = some 1 := by decide +kernel
set_option maxHeartbeats 4000000 in
set_option maxRecDepth 100000 in
theorem ctX0_farthestIn {l : Launch} {D : va_G} {cI cJ cQ : ClassId} (ad : Nat → Nat) (g : LandT) (v1 : Int32) {res : Int32} (h : fX0_farthestIn v1 g = some res) : CtI l D cI cJ cQ yX0_farthestIn wsX0_farthestIn rmX0_farthestIn [.ref (ad 0), .int v1] (wLd cI ad g) res (wLd cI ad g) := by
  refine ctI_of .int (cc := cX0_farthestIn) (maxL := 5) (by decide) rfl (Nat.le_of_ble_eq_true rfl) ?_
  intro p e s m args below meth c A Q ls F hK hA RET hH hl
  obtain ⟨hx, hb, hml, hown, hts⟩ := id F
  have hl : lv_has ls 5 [(0, .ref (ad 0)), (1, .int v1)] := hl
  have hf : wpO (fX0_farthestIn v1 g) (fun v => v = res) := ⟨_, h, rfl⟩
  obtain ⟨H, eH⟩ : ∃ H, H = s.heap := ⟨_, rfl⟩
  obtain ⟨locs, eL⟩ : ∃ locs : List Loc, locs = [] := ⟨_, rfl⟩
  have hH : Hs D A s.heap (wLd cI ad g) H locs := by rw [eH, eL]; exact hH
  rw [← eL]
  suffices hgo : W p l e rmX0_farthestIn s m args below meth c H locs 0 0 Q (F0 m 0 ls []) by rw [eH] at hgo; exact hgo
  clear eH eL
  refine lv_bipush (v := (-9)) hx hb dX0_farthestIn_0 (by decide) ?_
  refine lv_istore_n (lv' := [(2, .int (-9)), (0, .ref (ad 0)), (1, .int v1)]) hx hb dX0_farthestIn_2 rfl hl (by decide) rfl (fun ls hl => ?_)
  refine lv_iconst (v := (-1)) hx hb dX0_farthestIn_3 (by decide) ?_
  refine lv_istore_n (lv' := [(3, .int (-1)), (2, .int (-9)), (0, .ref (ad 0)), (1, .int v1)]) hx hb dX0_farthestIn_4 rfl hl (by decide) rfl (fun ls hl => ?_)
  refine lv_iconst (v := 0) hx hb dX0_farthestIn_5 (by decide) ?_
  refine lv_istore (lv' := [(4, .int 0), (3, .int (-1)), (2, .int (-9)), (0, .ref (ad 0)), (1, .int v1)]) hx hb dX0_farthestIn_6 hl (by decide) rfl (fun ls hl => ?_)
  have LP : ∀ (Φ : (Int32) → Prop), (∀ (t4 : Int32) (H : Heap) (locs : List Loc) (ls : Array Slot), Φ (t4) → Hs D A s.heap (wLd cI ad g) H locs → lv_has ls 5 [(2, .int t4)] → W p l e rmX0_farthestIn s m args below meth c H locs 0 0 Q (F0 m 55 ls [])) → ∀ (n : Nat) (t1 : Int32) (t2 : Int32) (t3 : Int32) (H : Heap) (locs : List Loc) (ls : Array Slot), wpO (lp (bX0_farthestIn_8 v1 g) n (t1, t2, t3)) Φ → Hs D A s.heap (wLd cI ad g) H locs → lv_has ls 5 [(0, .ref (ad 0)), (1, .int v1), (2, .int t1), (3, .int t2), (4, .int t3)] → W p l e rmX0_farthestIn s m args below meth c H locs 0 0 Q (F0 m 8 ls []) := by
    intro Φ EX n
    induction n with
    | zero =>
      intro t1 t2 t3 H locs ls hf hH hl
      exact (wp_l0 hf).elim
    | succ n ih =>
      intro t1 t2 t3 H locs ls hf hH hl
      have hf := wp_l hf
      refine lv_iload hx hb dX0_farthestIn_8 (lv_at hl 4 rfl) ?_
      refine lv_aload_n hx hb dX0_farthestIn_10 rfl (lv_at hl 0 rfl) ?_
      refine k_get (v := .int (gN g)) F hK hH 0 inX0_farthestIn_X0 7 mbX0_farthestIn_f43 dX0_farthestIn_11 rfl rfl (by decide) rfl ?_
      refine lv_icmp_ge (tgt := 55) hx hb dX0_farthestIn_14 (by decide) (fun hc => ?_) (fun hc => ?_)
      · have hf := wp_t hc hf
        have hw := wp_out hf
        exact EX _ _ _ _ hw hH (lv_sub hl [2] rfl)
      · have hf := wp_f hc hf
        refine lv_iload_n hx hb dX0_farthestIn_17 rfl (lv_at hl 1 rfl) ?_
        refine lv_iload hx hb dX0_farthestIn_18 (lv_at hl 4 rfl) ?_
        refine lv_ishr hx hb dX0_farthestIn_20 ?_
        refine lv_iconst (v := 1) hx hb dX0_farthestIn_21 (by decide) ?_
        refine lv_iand hx hb dX0_farthestIn_22 ?_
        refine lv_iconst (v := 1) hx hb dX0_farthestIn_23 (by decide) ?_
        refine lv_icmp_ne (tgt := 49) hx hb dX0_farthestIn_24 (by decide) (fun hc => ?_) (fun hc => ?_)
        · have hf := wp_f hc hf
          refine lv_iinc (v := t3 + 1) (lv' := [(4, .int (t3 + 1)), (0, .ref (ad 0)), (1, .int v1), (2, .int t1), (3, .int t2)]) hx hb dX0_farthestIn_49 hl (k := 4) rfl rfl (by decide) rfl (fun ls hl => ?_)
          refine lv_goto (tgt := 8) hx hb dX0_farthestIn_52 (by decide) ?_
          have hw := wp_in hf
          exact ih _ _ _ _ _ _ hw hH (lv_sub hl [1, 2, 3, 4, 0] rfl)
        · have hf := wp_t hc hf
          refine lv_aload_n hx hb dX0_farthestIn_27 rfl (lv_at hl 0 rfl) ?_
          refine k_get (v := .ref (ad 5)) F hK hH 0 inX0_farthestIn_X0 4 mbX0_farthestIn_f24 dX0_farthestIn_28 rfl rfl (by decide) rfl ?_
          refine lv_iload hx hb dX0_farthestIn_31 (lv_at hl 4 rfl) ?_
          obtain ⟨hi, hf⟩ := wp_n hf
          refine k_iald (f := gP g) (n := 7) F hK hH 5 dX0_farthestIn_33 hi rfl ?_
          refine lv_iload_n hx hb dX0_farthestIn_34 rfl (lv_at hl 3 rfl) ?_
          refine lv_icmp_le (tgt := 49) hx hb dX0_farthestIn_35 (by decide) (fun hc => ?_) (fun hc => ?_)
          · have hf := wp_t hc hf
            refine lv_iinc (v := t3 + 1) (lv' := [(4, .int (t3 + 1)), (0, .ref (ad 0)), (1, .int v1), (2, .int t1), (3, .int t2)]) hx hb dX0_farthestIn_49 hl (k := 4) rfl rfl (by decide) rfl (fun ls hl => ?_)
            refine lv_goto (tgt := 8) hx hb dX0_farthestIn_52 (by decide) ?_
            have hw := wp_in hf
            exact ih _ _ _ _ _ _ hw hH (lv_sub hl [1, 2, 3, 4, 0] rfl)
          · have hf := wp_f hc hf
            refine lv_aload_n hx hb dX0_farthestIn_38 rfl (lv_at hl 0 rfl) ?_
            refine k_get (v := .ref (ad 5)) F hK hH 0 inX0_farthestIn_X0 4 mbX0_farthestIn_f24 dX0_farthestIn_39 rfl rfl (by decide) rfl ?_
            refine lv_iload hx hb dX0_farthestIn_42 (lv_at hl 4 rfl) ?_
            obtain ⟨hi, hf⟩ := wp_n hf
            refine k_iald (f := gP g) (n := 7) F hK hH 5 dX0_farthestIn_44 hi rfl ?_
            refine lv_istore_n (lv' := [(3, .int ((gP g) (Int32.toNatClampNeg t3))), (0, .ref (ad 0)), (1, .int v1), (2, .int t1), (4, .int t3)]) hx hb dX0_farthestIn_45 rfl hl (by decide) rfl (fun ls hl => ?_)
            refine lv_iload hx hb dX0_farthestIn_46 (lv_at hl 4 rfl) ?_
            refine lv_istore_n (lv' := [(2, .int t3), (3, .int ((gP g) (Int32.toNatClampNeg t3))), (0, .ref (ad 0)), (1, .int v1), (4, .int t3)]) hx hb dX0_farthestIn_48 rfl hl (by decide) rfl (fun ls hl => ?_)
            refine lv_iinc (v := t3 + 1) (lv' := [(4, .int (t3 + 1)), (2, .int t3), (3, .int ((gP g) (Int32.toNatClampNeg t3))), (0, .ref (ad 0)), (1, .int v1)]) hx hb dX0_farthestIn_49 hl (k := 4) rfl rfl (by decide) rfl (fun ls hl => ?_)
            refine lv_goto (tgt := 8) hx hb dX0_farthestIn_52 (by decide) ?_
            have hw := wp_in hf
            exact ih _ _ _ _ _ _ hw hH (lv_sub hl [3, 4, 1, 2, 0] rfl)
  refine LP _ (fun t4 H locs ls hf hH hl => ?_) fu _ _ _ _ _ _ (wp_bb hf) hH (lv_sub hl [3, 4, 2, 1, 0] rfl)
  refine lv_iload_n hx hb dX0_farthestIn_55 rfl (lv_at hl 0 rfl) ?_
  have hrs := wp_s hf
  subst hrs
  exact RET H locs ls 56 dX0_farthestIn_56 rfl hH

def bX0_blindFrom_4 (v1 : Int32) (g : LandT) : (Int32 × Int32) → Option ((Int32 × Int32) ⊕ (Int32)) := fun ((t1, t2) : Int32 × Int32) =>
  if (16 : Int32) ≤ t2 then
    some (.inr t1)
  else
    if ob t2 16 then none else
    Option.bind (fX0_isInSight t2 (((gH g) (Int32.toNatClampNeg t2)) + 1) v1 g) fun x4 =>
    if x4 = 0 then
      some (.inl (t1 ||| ((1 : Int32) <<< (t2 &&& 31)), t2 + 1))
    else
      some (.inl (t1, t2 + 1))

def fX0_blindFrom (v1 : Int32) (g : LandT) : Option (Int32) :=
  Option.bind (lp (bX0_blindFrom_4 v1 g) fu (0, 0)) fun (t3 : Int32) =>
  some t3

def rmX0_blindFrom : Room := { frames := 2, cells := 0, slots := 0, locals := 44 }
theorem mbX0_blindFrom_f9 : Cond.fieldLink RX0 9 (TX0 0).1 (TX0 0).2.1 (TX0 0).2.2.1 ∈ wsX0_blindFrom := by decide +kernel
theorem inX0_blindFrom_X0 : ∀ w ∈ wsX00, w ∈ wsX0_blindFrom := by decide +kernel
theorem hdVX0_blindFrom : yX0_blindFrom.cls = RX0 ∧ yX0_blindFrom.cls ≠ "java/lang/invoke/MethodHandle" ∧ yX0_blindFrom.cls ≠ "java/lang/invoke/VarHandle" ∧ (parseMethodDescriptor yX0_blindFrom.desc).map (fun d => d.parameters.length) = some 1 := by decide +kernel
set_option maxHeartbeats 4000000 in
set_option maxRecDepth 100000 in
theorem ctX0_blindFrom {l : Launch} {D : va_G} {cI cJ cQ : ClassId} (ad : Nat → Nat) (g : LandT) (v1 : Int32) {res : Int32} (h : fX0_blindFrom v1 g = some res) : CtI l D cI cJ cQ yX0_blindFrom wsX0_blindFrom rmX0_blindFrom [.ref (ad 0), .int v1] (wLd cI ad g) res (wLd cI ad g) := by
  refine ctI_of .int (cc := cX0_blindFrom) (maxL := 4) (by decide) rfl (Nat.le_of_ble_eq_true rfl) ?_
  intro p e s m args below meth c A Q ls F hK hA RET hH hl
  obtain ⟨hx, hb, hml, hown, hts⟩ := id F
  have hl : lv_has ls 4 [(0, .ref (ad 0)), (1, .int v1)] := hl
  have hf : wpO (fX0_blindFrom v1 g) (fun v => v = res) := ⟨_, h, rfl⟩
  obtain ⟨H, eH⟩ : ∃ H, H = s.heap := ⟨_, rfl⟩
  obtain ⟨locs, eL⟩ : ∃ locs : List Loc, locs = [] := ⟨_, rfl⟩
  have hH : Hs D A s.heap (wLd cI ad g) H locs := by rw [eH, eL]; exact hH
  rw [← eL]
  suffices hgo : W p l e rmX0_blindFrom s m args below meth c H locs 0 0 Q (F0 m 0 ls []) by rw [eH] at hgo; exact hgo
  clear eH eL
  refine lv_iconst (v := 0) hx hb dX0_blindFrom_0 (by decide) ?_
  refine lv_istore_n (lv' := [(2, .int 0), (0, .ref (ad 0)), (1, .int v1)]) hx hb dX0_blindFrom_1 rfl hl (by decide) rfl (fun ls hl => ?_)
  refine lv_iconst (v := 0) hx hb dX0_blindFrom_2 (by decide) ?_
  refine lv_istore_n (lv' := [(3, .int 0), (2, .int 0), (0, .ref (ad 0)), (1, .int v1)]) hx hb dX0_blindFrom_3 rfl hl (by decide) rfl (fun ls hl => ?_)
  have LP : ∀ (Φ : (Int32) → Prop), (∀ (t3 : Int32) (H : Heap) (locs : List Loc) (ls : Array Slot), Φ (t3) → Hs D A s.heap (wLd cI ad g) H locs → lv_has ls 4 [(2, .int t3)] → W p l e rmX0_blindFrom s m args below meth c H locs 0 0 Q (F0 m 39 ls [])) → ∀ (n : Nat) (t1 : Int32) (t2 : Int32) (H : Heap) (locs : List Loc) (ls : Array Slot), wpO (lp (bX0_blindFrom_4 v1 g) n (t1, t2)) Φ → Hs D A s.heap (wLd cI ad g) H locs → lv_has ls 4 [(0, .ref (ad 0)), (1, .int v1), (2, .int t1), (3, .int t2)] → W p l e rmX0_blindFrom s m args below meth c H locs 0 0 Q (F0 m 4 ls []) := by
    intro Φ EX n
    induction n with
    | zero =>
      intro t1 t2 H locs ls hf hH hl
      exact (wp_l0 hf).elim
    | succ n ih =>
      intro t1 t2 H locs ls hf hH hl
      have hf := wp_l hf
      refine lv_iload_n hx hb dX0_blindFrom_4 rfl (lv_at hl 3 rfl) ?_
      refine lv_bipush (v := 16) hx hb dX0_blindFrom_5 (by decide) ?_
      refine lv_icmp_ge (tgt := 39) hx hb dX0_blindFrom_7 (by decide) (fun hc => ?_) (fun hc => ?_)
      · have hf := wp_t hc hf
        have hw := wp_out hf
        exact EX _ _ _ _ hw hH (lv_sub hl [2] rfl)
      · have hf := wp_f hc hf
        refine lv_aload_n hx hb dX0_blindFrom_10 rfl (lv_at hl 0 rfl) ?_
        refine lv_iload_n hx hb dX0_blindFrom_11 rfl (lv_at hl 3 rfl) ?_
        refine lv_aload_n hx hb dX0_blindFrom_12 rfl (lv_at hl 0 rfl) ?_
        refine k_get (v := .ref (ad 1)) F hK hH 0 inX0_blindFrom_X0 0 mbX0_blindFrom_f9 dX0_blindFrom_13 rfl rfl (by decide) rfl ?_
        refine lv_iload_n hx hb dX0_blindFrom_16 rfl (lv_at hl 3 rfl) ?_
        obtain ⟨hi, hf⟩ := wp_n hf
        refine k_iald (f := gH g) (n := 16) F hK hH 1 dX0_blindFrom_17 hi rfl ?_
        refine lv_iconst (v := 1) hx hb dX0_blindFrom_18 (by decide) ?_
        refine lv_iadd hx hb dX0_blindFrom_19 ?_
        refine lv_iload_n hx hb dX0_blindFrom_20 rfl (lv_at hl 1 rfl) ?_
        obtain ⟨x4, hcl, hf⟩ := wp_b hf
        refine k_Vi0 F hK hH hA hl.1 ⟨Nat.zero_le _, Nat.zero_le _⟩ [.int t2, .int (((gH g) (Int32.toNatClampNeg t2)) + 1), .int v1] [] (ctX0_isInSight ad g t2 (((gH g) (Int32.toNatClampNeg t2)) + 1) v1 hcl) (cwV 3 hts gX0_blindFrom_X0_isInSight rfl rfl rfl hdVX0_isInSight ⟨Nat.le_of_ble_eq_true rfl, Nat.le_of_ble_eq_true rfl⟩) dX0_blindFrom_21 0 rfl rfl rfl rfl rfl (Nat.le_of_ble_eq_true rfl) rfl (fun H locs hH => ?_)
        have hH : Hs D A s.heap (wLd cI ad g) H locs := hH
        refine lv_if_ne (tgt := 33) hx hb dX0_blindFrom_24 (by decide) (fun hc => ?_) (fun hc => ?_)
        · have hf := wp_f hc hf
          refine lv_iinc (v := t2 + 1) (lv' := [(3, .int (t2 + 1)), (0, .ref (ad 0)), (1, .int v1), (2, .int t1)]) hx hb dX0_blindFrom_33 hl (k := 3) rfl rfl (by decide) rfl (fun ls hl => ?_)
          refine lv_goto (tgt := 4) hx hb dX0_blindFrom_36 (by decide) ?_
          have hw := wp_in hf
          exact ih _ _ _ _ _ hw hH (lv_sub hl [1, 2, 3, 0] rfl)
        · have hf := wp_t hc hf
          refine lv_iload_n hx hb dX0_blindFrom_27 rfl (lv_at hl 2 rfl) ?_
          refine lv_iconst (v := 1) hx hb dX0_blindFrom_28 (by decide) ?_
          refine lv_iload_n hx hb dX0_blindFrom_29 rfl (lv_at hl 3 rfl) ?_
          refine lv_ishl hx hb dX0_blindFrom_30 ?_
          refine lv_ior hx hb dX0_blindFrom_31 ?_
          refine lv_istore_n (lv' := [(2, .int (t1 ||| ((1 : Int32) <<< (t2 &&& 31)))), (0, .ref (ad 0)), (1, .int v1), (3, .int t2)]) hx hb dX0_blindFrom_32 rfl hl (by decide) rfl (fun ls hl => ?_)
          refine lv_iinc (v := t2 + 1) (lv' := [(3, .int (t2 + 1)), (2, .int (t1 ||| ((1 : Int32) <<< (t2 &&& 31)))), (0, .ref (ad 0)), (1, .int v1)]) hx hb dX0_blindFrom_33 hl (k := 3) rfl rfl (by decide) rfl (fun ls hl => ?_)
          refine lv_goto (tgt := 4) hx hb dX0_blindFrom_36 (by decide) ?_
          have hw := wp_in hf
          exact ih _ _ _ _ _ hw hH (lv_sub hl [2, 3, 1, 0] rfl)
  refine LP _ (fun t3 H locs ls hf hH hl => ?_) fu _ _ _ _ _ (wp_bb hf) hH (lv_sub hl [2, 3, 1, 0] rfl)
  refine lv_iload_n hx hb dX0_blindFrom_39 rfl (lv_at hl 0 rfl) ?_
  have hrs := wp_s hf
  subst hrs
  exact RET H locs ls 40 dX0_blindFrom_40 rfl hH

def bX0_highest_7 (g : LandT) : (Int32 × Int32 × Int32) → Option ((Int32 × Int32 × Int32) ⊕ (Int32)) := fun ((t1, t2, t3) : Int32 × Int32 × Int32) =>
  if (gN g) ≤ t3 then
    some (.inr t1)
  else
    Option.bind (fX0_topOf t3 g) fun x5 =>
    if x5 ≤ t2 then
      some (.inl (t1, t2, t3 + 1))
    else
      Option.bind (fX0_topOf t3 g) fun x6 =>
      some (.inl (t3, x6, t3 + 1))

def fX0_highest (g : LandT) : Option (Int32) :=
  Option.bind (lp (bX0_highest_7 g) fu ((-9), (-1), 0)) fun (t4 : Int32) =>
  some t4

def rmX0_highest : Room := { frames := 2, cells := 0, slots := 0, locals := 42 }
theorem mbX0_highest_f43 : Cond.fieldLink RX0 43 (TX0 7).1 (TX0 7).2.1 (TX0 7).2.2.1 ∈ wsX0_highest := by decide +kernel
theorem inX0_highest_X0 : ∀ w ∈ wsX00, w ∈ wsX0_highest := by decide +kernel
theorem hdVX0_highest : yX0_highest.cls = RX0 ∧ yX0_highest.cls ≠ "java/lang/invoke/MethodHandle" ∧ yX0_highest.cls ≠ "java/lang/invoke/VarHandle" ∧ (parseMethodDescriptor yX0_highest.desc).map (fun d => d.parameters.length) = some 0 := by decide +kernel
set_option maxHeartbeats 4000000 in
set_option maxRecDepth 100000 in
theorem ctX0_highest {l : Launch} {D : va_G} {cI cJ cQ : ClassId} (ad : Nat → Nat) (g : LandT)  {res : Int32} (h : fX0_highest g = some res) : CtI l D cI cJ cQ yX0_highest wsX0_highest rmX0_highest [.ref (ad 0)] (wLd cI ad g) res (wLd cI ad g) := by
  refine ctI_of .int (cc := cX0_highest) (maxL := 4) (by decide) rfl (Nat.le_of_ble_eq_true rfl) ?_
  intro p e s m args below meth c A Q ls F hK hA RET hH hl
  obtain ⟨hx, hb, hml, hown, hts⟩ := id F
  have hl : lv_has ls 4 [(0, .ref (ad 0))] := hl
  have hf : wpO (fX0_highest g) (fun v => v = res) := ⟨_, h, rfl⟩
  obtain ⟨H, eH⟩ : ∃ H, H = s.heap := ⟨_, rfl⟩
  obtain ⟨locs, eL⟩ : ∃ locs : List Loc, locs = [] := ⟨_, rfl⟩
  have hH : Hs D A s.heap (wLd cI ad g) H locs := by rw [eH, eL]; exact hH
  rw [← eL]
  suffices hgo : W p l e rmX0_highest s m args below meth c H locs 0 0 Q (F0 m 0 ls []) by rw [eH] at hgo; exact hgo
  clear eH eL
  refine lv_bipush (v := (-9)) hx hb dX0_highest_0 (by decide) ?_
  refine lv_istore_n (lv' := [(1, .int (-9)), (0, .ref (ad 0))]) hx hb dX0_highest_2 rfl hl (by decide) rfl (fun ls hl => ?_)
  refine lv_iconst (v := (-1)) hx hb dX0_highest_3 (by decide) ?_
  refine lv_istore_n (lv' := [(2, .int (-1)), (1, .int (-9)), (0, .ref (ad 0))]) hx hb dX0_highest_4 rfl hl (by decide) rfl (fun ls hl => ?_)
  refine lv_iconst (v := 0) hx hb dX0_highest_5 (by decide) ?_
  refine lv_istore_n (lv' := [(3, .int 0), (2, .int (-1)), (1, .int (-9)), (0, .ref (ad 0))]) hx hb dX0_highest_6 rfl hl (by decide) rfl (fun ls hl => ?_)
  have LP : ∀ (Φ : (Int32) → Prop), (∀ (t4 : Int32) (H : Heap) (locs : List Loc) (ls : Array Slot), Φ (t4) → Hs D A s.heap (wLd cI ad g) H locs → lv_has ls 4 [(1, .int t4)] → W p l e rmX0_highest s m args below meth c H locs 0 0 Q (F0 m 38 ls [])) → ∀ (n : Nat) (t1 : Int32) (t2 : Int32) (t3 : Int32) (H : Heap) (locs : List Loc) (ls : Array Slot), wpO (lp (bX0_highest_7 g) n (t1, t2, t3)) Φ → Hs D A s.heap (wLd cI ad g) H locs → lv_has ls 4 [(0, .ref (ad 0)), (1, .int t1), (2, .int t2), (3, .int t3)] → W p l e rmX0_highest s m args below meth c H locs 0 0 Q (F0 m 7 ls []) := by
    intro Φ EX n
    induction n with
    | zero =>
      intro t1 t2 t3 H locs ls hf hH hl
      exact (wp_l0 hf).elim
    | succ n ih =>
      intro t1 t2 t3 H locs ls hf hH hl
      have hf := wp_l hf
      refine lv_iload_n hx hb dX0_highest_7 rfl (lv_at hl 3 rfl) ?_
      refine lv_aload_n hx hb dX0_highest_8 rfl (lv_at hl 0 rfl) ?_
      refine k_get (v := .int (gN g)) F hK hH 0 inX0_highest_X0 7 mbX0_highest_f43 dX0_highest_9 rfl rfl (by decide) rfl ?_
      refine lv_icmp_ge (tgt := 38) hx hb dX0_highest_12 (by decide) (fun hc => ?_) (fun hc => ?_)
      · have hf := wp_t hc hf
        have hw := wp_out hf
        exact EX _ _ _ _ hw hH (lv_sub hl [1] rfl)
      · have hf := wp_f hc hf
        refine lv_aload_n hx hb dX0_highest_15 rfl (lv_at hl 0 rfl) ?_
        refine lv_iload_n hx hb dX0_highest_16 rfl (lv_at hl 3 rfl) ?_
        obtain ⟨x5, hcl, hf⟩ := wp_b hf
        refine k_Vi0 F hK hH hA hl.1 ⟨Nat.zero_le _, Nat.zero_le _⟩ [.int t3] [] (ctX0_topOf ad g t3 hcl) (cwV 1 hts gX0_highest_X0_topOf rfl rfl rfl hdVX0_topOf ⟨Nat.le_of_ble_eq_true rfl, Nat.le_of_ble_eq_true rfl⟩) dX0_highest_17 0 rfl rfl rfl rfl rfl (Nat.le_of_ble_eq_true rfl) rfl (fun H locs hH => ?_)
        have hH : Hs D A s.heap (wLd cI ad g) H locs := hH
        refine lv_iload_n hx hb dX0_highest_20 rfl (lv_at hl 2 rfl) ?_
        refine lv_icmp_le (tgt := 32) hx hb dX0_highest_21 (by decide) (fun hc => ?_) (fun hc => ?_)
        · have hf := wp_t hc hf
          refine lv_iinc (v := t3 + 1) (lv' := [(3, .int (t3 + 1)), (0, .ref (ad 0)), (1, .int t1), (2, .int t2)]) hx hb dX0_highest_32 hl (k := 3) rfl rfl (by decide) rfl (fun ls hl => ?_)
          refine lv_goto (tgt := 7) hx hb dX0_highest_35 (by decide) ?_
          have hw := wp_in hf
          exact ih _ _ _ _ _ _ hw hH (lv_sub hl [1, 2, 3, 0] rfl)
        · have hf := wp_f hc hf
          refine lv_aload_n hx hb dX0_highest_24 rfl (lv_at hl 0 rfl) ?_
          refine lv_iload_n hx hb dX0_highest_25 rfl (lv_at hl 3 rfl) ?_
          obtain ⟨x6, hcl, hf⟩ := wp_b hf
          refine k_Vi0 F hK hH hA hl.1 ⟨Nat.zero_le _, Nat.zero_le _⟩ [.int t3] [] (ctX0_topOf ad g t3 hcl) (cwV 1 hts gX0_highest_X0_topOf rfl rfl rfl hdVX0_topOf ⟨Nat.le_of_ble_eq_true rfl, Nat.le_of_ble_eq_true rfl⟩) dX0_highest_26 0 rfl rfl rfl rfl rfl (Nat.le_of_ble_eq_true rfl) rfl (fun H locs hH => ?_)
          have hH : Hs D A s.heap (wLd cI ad g) H locs := hH
          refine lv_istore_n (lv' := [(2, .int x6), (0, .ref (ad 0)), (1, .int t1), (3, .int t3)]) hx hb dX0_highest_29 rfl hl (by decide) rfl (fun ls hl => ?_)
          refine lv_iload_n hx hb dX0_highest_30 rfl (lv_at hl 3 rfl) ?_
          refine lv_istore_n (lv' := [(1, .int t3), (2, .int x6), (0, .ref (ad 0)), (3, .int t3)]) hx hb dX0_highest_31 rfl hl (by decide) rfl (fun ls hl => ?_)
          refine lv_iinc (v := t3 + 1) (lv' := [(3, .int (t3 + 1)), (1, .int t3), (2, .int x6), (0, .ref (ad 0))]) hx hb dX0_highest_32 hl (k := 3) rfl rfl (by decide) rfl (fun ls hl => ?_)
          refine lv_goto (tgt := 7) hx hb dX0_highest_35 (by decide) ?_
          have hw := wp_in hf
          exact ih _ _ _ _ _ _ hw hH (lv_sub hl [3, 1, 2, 0] rfl)
  refine LP _ (fun t4 H locs ls hf hH hl => ?_) fu _ _ _ _ _ _ (wp_bb hf) hH (lv_sub hl [3, 2, 1, 0] rfl)
  refine lv_iload_n hx hb dX0_highest_38 rfl (lv_at hl 0 rfl) ?_
  have hrs := wp_s hf
  subst hrs
  exact RET H locs ls 39 dX0_highest_39 rfl hH

def bX0_twosInOneCell_16 (g : LandT) (t2 : Int32) : (Int32 × Int32) → Option ((Int32 × Int32) ⊕ (Int32)) := fun ((t4, t5) : Int32 × Int32) =>
  if (gN g) ≤ t5 then
    some (.inr t4)
  else
    if ob t2 7 then none else
    if ob t5 7 then none else
    Option.bind (if ((gP g) (Int32.toNatClampNeg t2)) = ((gP g) (Int32.toNatClampNeg t5)) then
        some 1
      else
        some 0) fun (t7 : Int32) =>
    some (.inl (t4 + t7, t5 + 1))

def bX0_twosInOneCell_4 (g : LandT) : (Int32 × Int32) → Option ((Int32 × Int32) ⊕ (Int32)) := fun ((t1, t2) : Int32 × Int32) =>
  if (gN g) ≤ t2 then
    some (.inr t1)
  else
    Option.bind (lp (bX0_twosInOneCell_16 g t2) fu (t1, t2 + 1)) fun (t6 : Int32) =>
    some (.inl (t6, t2 + 1))

def fX0_twosInOneCell (g : LandT) : Option (Int32) :=
  Option.bind (lp (bX0_twosInOneCell_4 g) fu (0, 0)) fun (t3 : Int32) =>
  some t3

def rmX0_twosInOneCell : Room := { frames := 0, cells := 0, slots := 0, locals := 0 }
theorem mbX0_twosInOneCell_f43 : Cond.fieldLink RX0 43 (TX0 7).1 (TX0 7).2.1 (TX0 7).2.2.1 ∈ wsX0_twosInOneCell := by decide +kernel
theorem inX0_twosInOneCell_X0 : ∀ w ∈ wsX00, w ∈ wsX0_twosInOneCell := by decide +kernel
theorem mbX0_twosInOneCell_f24 : Cond.fieldLink RX0 24 (TX0 4).1 (TX0 4).2.1 (TX0 4).2.2.1 ∈ wsX0_twosInOneCell := by decide +kernel
theorem hdVX0_twosInOneCell : yX0_twosInOneCell.cls = RX0 ∧ yX0_twosInOneCell.cls ≠ "java/lang/invoke/MethodHandle" ∧ yX0_twosInOneCell.cls ≠ "java/lang/invoke/VarHandle" ∧ (parseMethodDescriptor yX0_twosInOneCell.desc).map (fun d => d.parameters.length) = some 0 := by decide +kernel
set_option maxHeartbeats 4000000 in
set_option maxRecDepth 100000 in
theorem ctX0_twosInOneCell {l : Launch} {D : va_G} {cI cJ cQ : ClassId} (ad : Nat → Nat) (g : LandT)  {res : Int32} (h : fX0_twosInOneCell g = some res) : CtI l D cI cJ cQ yX0_twosInOneCell wsX0_twosInOneCell rmX0_twosInOneCell [.ref (ad 0)] (wLd cI ad g) res (wLd cI ad g) := by
  refine ctI_of .int (cc := cX0_twosInOneCell) (maxL := 4) (by decide) rfl (Nat.le_of_ble_eq_true rfl) ?_
  intro p e s m args below meth c A Q ls F hK hA RET hH hl
  obtain ⟨hx, hb, hml, hown, hts⟩ := id F
  have hl : lv_has ls 4 [(0, .ref (ad 0))] := hl
  have hf : wpO (fX0_twosInOneCell g) (fun v => v = res) := ⟨_, h, rfl⟩
  obtain ⟨H, eH⟩ : ∃ H, H = s.heap := ⟨_, rfl⟩
  obtain ⟨locs, eL⟩ : ∃ locs : List Loc, locs = [] := ⟨_, rfl⟩
  have hH : Hs D A s.heap (wLd cI ad g) H locs := by rw [eH, eL]; exact hH
  rw [← eL]
  suffices hgo : W p l e rmX0_twosInOneCell s m args below meth c H locs 0 0 Q (F0 m 0 ls []) by rw [eH] at hgo; exact hgo
  clear eH eL
  refine lv_iconst (v := 0) hx hb dX0_twosInOneCell_0 (by decide) ?_
  refine lv_istore_n (lv' := [(1, .int 0), (0, .ref (ad 0))]) hx hb dX0_twosInOneCell_1 rfl hl (by decide) rfl (fun ls hl => ?_)
  refine lv_iconst (v := 0) hx hb dX0_twosInOneCell_2 (by decide) ?_
  refine lv_istore_n (lv' := [(2, .int 0), (1, .int 0), (0, .ref (ad 0))]) hx hb dX0_twosInOneCell_3 rfl hl (by decide) rfl (fun ls hl => ?_)
  have LP : ∀ (Φ : (Int32) → Prop), (∀ (t3 : Int32) (H : Heap) (locs : List Loc) (ls : Array Slot), Φ (t3) → Hs D A s.heap (wLd cI ad g) H locs → lv_has ls 4 [(1, .int t3)] → W p l e rmX0_twosInOneCell s m args below meth c H locs 0 0 Q (F0 m 59 ls [])) → ∀ (n : Nat) (t1 : Int32) (t2 : Int32) (H : Heap) (locs : List Loc) (ls : Array Slot), wpO (lp (bX0_twosInOneCell_4 g) n (t1, t2)) Φ → Hs D A s.heap (wLd cI ad g) H locs → lv_has ls 4 [(0, .ref (ad 0)), (1, .int t1), (2, .int t2)] → W p l e rmX0_twosInOneCell s m args below meth c H locs 0 0 Q (F0 m 4 ls []) := by
    intro Φ EX n
    induction n with
    | zero =>
      intro t1 t2 H locs ls hf hH hl
      exact (wp_l0 hf).elim
    | succ n ih =>
      intro t1 t2 H locs ls hf hH hl
      have hf := wp_l hf
      refine lv_iload_n hx hb dX0_twosInOneCell_4 rfl (lv_at hl 2 rfl) ?_
      refine lv_aload_n hx hb dX0_twosInOneCell_5 rfl (lv_at hl 0 rfl) ?_
      refine k_get (v := .int (gN g)) F hK hH 0 inX0_twosInOneCell_X0 7 mbX0_twosInOneCell_f43 dX0_twosInOneCell_6 rfl rfl (by decide) rfl ?_
      refine lv_icmp_ge (tgt := 59) hx hb dX0_twosInOneCell_9 (by decide) (fun hc => ?_) (fun hc => ?_)
      · have hf := wp_t hc hf
        have hw := wp_out hf
        exact EX _ _ _ _ hw hH (lv_sub hl [1] rfl)
      · have hf := wp_f hc hf
        refine lv_iload_n hx hb dX0_twosInOneCell_12 rfl (lv_at hl 2 rfl) ?_
        refine lv_iconst (v := 1) hx hb dX0_twosInOneCell_13 (by decide) ?_
        refine lv_iadd hx hb dX0_twosInOneCell_14 ?_
        refine lv_istore_n (lv' := [(3, .int (t2 + 1)), (0, .ref (ad 0)), (1, .int t1), (2, .int t2)]) hx hb dX0_twosInOneCell_15 rfl hl (by decide) rfl (fun ls hl => ?_)
        have LP : ∀ (Φ : (Int32) → Prop), (∀ (t6 : Int32) (H : Heap) (locs : List Loc) (ls : Array Slot), Φ (t6) → Hs D A s.heap (wLd cI ad g) H locs → lv_has ls 4 [(0, .ref (ad 0)), (1, .int t6), (2, .int t2)] → W p l e rmX0_twosInOneCell s m args below meth c H locs 0 0 Q (F0 m 53 ls [])) → ∀ (n : Nat) (t4 : Int32) (t5 : Int32) (H : Heap) (locs : List Loc) (ls : Array Slot), wpO (lp (bX0_twosInOneCell_16 g t2) n (t4, t5)) Φ → Hs D A s.heap (wLd cI ad g) H locs → lv_has ls 4 [(0, .ref (ad 0)), (1, .int t4), (2, .int t2), (3, .int t5)] → W p l e rmX0_twosInOneCell s m args below meth c H locs 0 0 Q (F0 m 16 ls []) := by
          intro Φ EX n
          induction n with
          | zero =>
            intro t4 t5 H locs ls hf hH hl
            exact (wp_l0 hf).elim
          | succ n ih =>
            intro t4 t5 H locs ls hf hH hl
            have hf := wp_l hf
            refine lv_iload_n hx hb dX0_twosInOneCell_16 rfl (lv_at hl 3 rfl) ?_
            refine lv_aload_n hx hb dX0_twosInOneCell_17 rfl (lv_at hl 0 rfl) ?_
            refine k_get (v := .int (gN g)) F hK hH 0 inX0_twosInOneCell_X0 7 mbX0_twosInOneCell_f43 dX0_twosInOneCell_18 rfl rfl (by decide) rfl ?_
            refine lv_icmp_ge (tgt := 53) hx hb dX0_twosInOneCell_21 (by decide) (fun hc => ?_) (fun hc => ?_)
            · have hf := wp_t hc hf
              have hw := wp_out hf
              exact EX _ _ _ _ hw hH (lv_sub hl [0, 1, 2] rfl)
            · have hf := wp_f hc hf
              refine lv_iload_n hx hb dX0_twosInOneCell_24 rfl (lv_at hl 1 rfl) ?_
              refine lv_aload_n hx hb dX0_twosInOneCell_25 rfl (lv_at hl 0 rfl) ?_
              refine k_get (v := .ref (ad 5)) F hK hH 0 inX0_twosInOneCell_X0 4 mbX0_twosInOneCell_f24 dX0_twosInOneCell_26 rfl rfl (by decide) rfl ?_
              refine lv_iload_n hx hb dX0_twosInOneCell_29 rfl (lv_at hl 2 rfl) ?_
              obtain ⟨hi, hf⟩ := wp_n hf
              refine k_iald (f := gP g) (n := 7) F hK hH 5 dX0_twosInOneCell_30 hi rfl ?_
              refine lv_aload_n hx hb dX0_twosInOneCell_31 rfl (lv_at hl 0 rfl) ?_
              refine k_get (v := .ref (ad 5)) F hK hH 0 inX0_twosInOneCell_X0 4 mbX0_twosInOneCell_f24 dX0_twosInOneCell_32 rfl rfl (by decide) rfl ?_
              refine lv_iload_n hx hb dX0_twosInOneCell_35 rfl (lv_at hl 3 rfl) ?_
              obtain ⟨hi, hf⟩ := wp_n hf
              refine k_iald (f := gP g) (n := 7) F hK hH 5 dX0_twosInOneCell_36 hi rfl ?_
              refine join_ (α := Int32) (fun Φ => ∀ (t7 : Int32) (H : Heap) (locs : List Loc) (ls : Array Slot), Φ t7 → Hs D A s.heap (wLd cI ad g) H locs → lv_has ls 4 [(0, .ref (ad 0)), (2, .int t2), (3, .int t5)] → W p l e rmX0_twosInOneCell s m args below meth c H locs 0 0 Q (F0 m 45 ls [.int t7, .int t4])) (wp_bb hf) ?_ ?_
              · intro t7 H locs ls hf hH hl
                refine lv_iadd hx hb dX0_twosInOneCell_45 ?_
                refine lv_istore_n (lv' := [(1, .int (t4 + t7)), (0, .ref (ad 0)), (2, .int t2), (3, .int t5)]) hx hb dX0_twosInOneCell_46 rfl hl (by decide) rfl (fun ls hl => ?_)
                refine lv_iinc (v := t5 + 1) (lv' := [(3, .int (t5 + 1)), (1, .int (t4 + t7)), (0, .ref (ad 0)), (2, .int t2)]) hx hb dX0_twosInOneCell_47 hl (k := 3) rfl rfl (by decide) rfl (fun ls hl => ?_)
                refine lv_goto (tgt := 16) hx hb dX0_twosInOneCell_50 (by decide) ?_
                have hw := wp_in hf
                exact ih _ _ _ _ _ hw hH (lv_sub hl [2, 1, 3, 0] rfl)
              · intro Φ JJ hf
                refine lv_icmp_ne (tgt := 44) hx hb dX0_twosInOneCell_37 (by decide) (fun hc => ?_) (fun hc => ?_)
                · have hf := wp_f hc hf
                  refine lv_iconst (v := 0) hx hb dX0_twosInOneCell_44 (by decide) ?_
                  have hw := wp_s hf
                  exact JJ _ _ _ _ hw hH (lv_sub hl [0, 2, 3] rfl)
                · have hf := wp_t hc hf
                  refine lv_iconst (v := 1) hx hb dX0_twosInOneCell_40 (by decide) ?_
                  refine lv_goto (tgt := 45) hx hb dX0_twosInOneCell_41 (by decide) ?_
                  have hw := wp_s hf
                  exact JJ _ _ _ _ hw hH (lv_sub hl [0, 2, 3] rfl)
        refine LP _ (fun t6 H locs ls hf hH hl => ?_) fu _ _ _ _ _ (wp_bb hf) hH (lv_sub hl [1, 2, 3, 0] rfl)
        refine lv_iinc (v := t2 + 1) (lv' := [(2, .int (t2 + 1)), (0, .ref (ad 0)), (1, .int t6)]) hx hb dX0_twosInOneCell_53 hl (k := 2) rfl rfl (by decide) rfl (fun ls hl => ?_)
        refine lv_goto (tgt := 4) hx hb dX0_twosInOneCell_56 (by decide) ?_
        have hw := wp_in hf
        exact ih _ _ _ _ _ hw hH (lv_sub hl [1, 2, 0] rfl)
  refine LP _ (fun t3 H locs ls hf hH hl => ?_) fu _ _ _ _ _ (wp_bb hf) hH (lv_sub hl [2, 1, 0] rfl)
  refine lv_iload_n hx hb dX0_twosInOneCell_59 rfl (lv_at hl 0 rfl) ?_
  have hrs := wp_s hf
  subst hrs
  exact RET H locs ls 60 dX0_twosInOneCell_60 rfl hH

def bX0_lost_4 (g : LandT) : (Int32 × Int32) → Option ((Int32 × Int32) ⊕ (Int32)) := fun ((t1, t2) : Int32 × Int32) =>
  if (10 : Int32) ≤ t2 then
    some (.inr t1)
  else
    Option.bind (fX0_sightFrom t2 g) fun x4 =>
    some (.inl (t1 ||| x4, t2 + 1))

def fX0_lost (g : LandT) : Option (Int32) :=
  Option.bind (lp (bX0_lost_4 g) fu (0, 0)) fun (t3 : Int32) =>
  some ((((1 : Int32) <<< ((gN g) &&& 31)) - 1) &&& (t3 ^^^ (-1)))

def rmX0_lost : Room := { frames := 4, cells := 0, slots := 0, locals := 89 }
theorem mbX0_lost_f43 : Cond.fieldLink RX0 43 (TX0 7).1 (TX0 7).2.1 (TX0 7).2.2.1 ∈ wsX0_lost := by decide +kernel
theorem inX0_lost_X0 : ∀ w ∈ wsX00, w ∈ wsX0_lost := by decide +kernel
theorem hdVX0_lost : yX0_lost.cls = RX0 ∧ yX0_lost.cls ≠ "java/lang/invoke/MethodHandle" ∧ yX0_lost.cls ≠ "java/lang/invoke/VarHandle" ∧ (parseMethodDescriptor yX0_lost.desc).map (fun d => d.parameters.length) = some 0 := by decide +kernel
set_option maxHeartbeats 4000000 in
set_option maxRecDepth 100000 in
theorem ctX0_lost {l : Launch} {D : va_G} {cI cJ cQ : ClassId} (ad : Nat → Nat) (g : LandT)  {res : Int32} (h : fX0_lost g = some res) : CtI l D cI cJ cQ yX0_lost wsX0_lost rmX0_lost [.ref (ad 0)] (wLd cI ad g) res (wLd cI ad g) := by
  refine ctI_of .int (cc := cX0_lost) (maxL := 3) (by decide) rfl (Nat.le_of_ble_eq_true rfl) ?_
  intro p e s m args below meth c A Q ls F hK hA RET hH hl
  obtain ⟨hx, hb, hml, hown, hts⟩ := id F
  have hl : lv_has ls 3 [(0, .ref (ad 0))] := hl
  have hf : wpO (fX0_lost g) (fun v => v = res) := ⟨_, h, rfl⟩
  obtain ⟨H, eH⟩ : ∃ H, H = s.heap := ⟨_, rfl⟩
  obtain ⟨locs, eL⟩ : ∃ locs : List Loc, locs = [] := ⟨_, rfl⟩
  have hH : Hs D A s.heap (wLd cI ad g) H locs := by rw [eH, eL]; exact hH
  rw [← eL]
  suffices hgo : W p l e rmX0_lost s m args below meth c H locs 0 0 Q (F0 m 0 ls []) by rw [eH] at hgo; exact hgo
  clear eH eL
  refine lv_iconst (v := 0) hx hb dX0_lost_0 (by decide) ?_
  refine lv_istore_n (lv' := [(1, .int 0), (0, .ref (ad 0))]) hx hb dX0_lost_1 rfl hl (by decide) rfl (fun ls hl => ?_)
  refine lv_iconst (v := 0) hx hb dX0_lost_2 (by decide) ?_
  refine lv_istore_n (lv' := [(2, .int 0), (1, .int 0), (0, .ref (ad 0))]) hx hb dX0_lost_3 rfl hl (by decide) rfl (fun ls hl => ?_)
  have LP : ∀ (Φ : (Int32) → Prop), (∀ (t3 : Int32) (H : Heap) (locs : List Loc) (ls : Array Slot), Φ (t3) → Hs D A s.heap (wLd cI ad g) H locs → lv_has ls 3 [(0, .ref (ad 0)), (1, .int t3)] → W p l e rmX0_lost s m args below meth c H locs 0 0 Q (F0 m 24 ls [])) → ∀ (n : Nat) (t1 : Int32) (t2 : Int32) (H : Heap) (locs : List Loc) (ls : Array Slot), wpO (lp (bX0_lost_4 g) n (t1, t2)) Φ → Hs D A s.heap (wLd cI ad g) H locs → lv_has ls 3 [(0, .ref (ad 0)), (1, .int t1), (2, .int t2)] → W p l e rmX0_lost s m args below meth c H locs 0 0 Q (F0 m 4 ls []) := by
    intro Φ EX n
    induction n with
    | zero =>
      intro t1 t2 H locs ls hf hH hl
      exact (wp_l0 hf).elim
    | succ n ih =>
      intro t1 t2 H locs ls hf hH hl
      have hf := wp_l hf
      refine lv_iload_n hx hb dX0_lost_4 rfl (lv_at hl 2 rfl) ?_
      refine lv_bipush (v := 10) hx hb dX0_lost_5 (by decide) ?_
      refine lv_icmp_ge (tgt := 24) hx hb dX0_lost_7 (by decide) (fun hc => ?_) (fun hc => ?_)
      · have hf := wp_t hc hf
        have hw := wp_out hf
        exact EX _ _ _ _ hw hH (lv_sub hl [0, 1] rfl)
      · have hf := wp_f hc hf
        refine lv_iload_n hx hb dX0_lost_10 rfl (lv_at hl 1 rfl) ?_
        refine lv_aload_n hx hb dX0_lost_11 rfl (lv_at hl 0 rfl) ?_
        refine lv_iload_n hx hb dX0_lost_12 rfl (lv_at hl 2 rfl) ?_
        obtain ⟨x4, hcl, hf⟩ := wp_b hf
        refine k_Vi0 F hK hH hA hl.1 ⟨Nat.zero_le _, Nat.zero_le _⟩ [.int t2] [.int t1] (ctX0_sightFrom ad g t2 hcl) (cwV 1 hts gX0_lost_X0_sightFrom rfl rfl rfl hdVX0_sightFrom ⟨Nat.le_of_ble_eq_true rfl, Nat.le_of_ble_eq_true rfl⟩) dX0_lost_13 0 rfl rfl rfl rfl rfl (Nat.le_of_ble_eq_true rfl) rfl (fun H locs hH => ?_)
        have hH : Hs D A s.heap (wLd cI ad g) H locs := hH
        refine lv_ior hx hb dX0_lost_16 ?_
        refine lv_istore_n (lv' := [(1, .int (t1 ||| x4)), (0, .ref (ad 0)), (2, .int t2)]) hx hb dX0_lost_17 rfl hl (by decide) rfl (fun ls hl => ?_)
        refine lv_iinc (v := t2 + 1) (lv' := [(2, .int (t2 + 1)), (1, .int (t1 ||| x4)), (0, .ref (ad 0))]) hx hb dX0_lost_18 hl (k := 2) rfl rfl (by decide) rfl (fun ls hl => ?_)
        refine lv_goto (tgt := 4) hx hb dX0_lost_21 (by decide) ?_
        have hw := wp_in hf
        exact ih _ _ _ _ _ hw hH (lv_sub hl [2, 1, 0] rfl)
  refine LP _ (fun t3 H locs ls hf hH hl => ?_) fu _ _ _ _ _ (wp_bb hf) hH (lv_sub hl [2, 1, 0] rfl)
  refine lv_iconst (v := 1) hx hb dX0_lost_24 (by decide) ?_
  refine lv_aload_n hx hb dX0_lost_25 rfl (lv_at hl 0 rfl) ?_
  refine k_get (v := .int (gN g)) F hK hH 0 inX0_lost_X0 7 mbX0_lost_f43 dX0_lost_26 rfl rfl (by decide) rfl ?_
  refine lv_ishl hx hb dX0_lost_29 ?_
  refine lv_iconst (v := 1) hx hb dX0_lost_30 (by decide) ?_
  refine lv_isub hx hb dX0_lost_31 ?_
  refine lv_iload_n hx hb dX0_lost_32 rfl (lv_at hl 1 rfl) ?_
  refine lv_iconst (v := (-1)) hx hb dX0_lost_33 (by decide) ?_
  refine lv_ixor hx hb dX0_lost_34 ?_
  refine lv_iand hx hb dX0_lost_35 ?_
  have hrs := wp_s hf
  subst hrs
  exact RET H locs ls 36 dX0_lost_36 rfl hH

