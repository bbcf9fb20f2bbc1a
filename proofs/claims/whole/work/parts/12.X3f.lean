def bX3_hide_16 (yn : LandT) : (Int32 × (Nat → Int32)) → Option ((Int32 × (Nat → Int32)) ⊕ ((Nat → Int32))) := fun ((t2, t3) : Int32 × (Nat → Int32)) =>
  if (10 : Int32) ≤ t2 then
    some (.inr t3)
  else
    Option.bind (fX0_sightFrom t2 yn) fun x5 =>
    if ob t2 10 then none else
    some (.inl (t2 + 1, upd t3 (Int32.toNatClampNeg t2) x5))

def bX3_hide_47 (v1 : Int32) (yn : LandT) (t4 : (Nat → Int32)) : (Int32 × Int32) → Option ((Int32 × Int32) ⊕ (Int32)) := fun ((t6, t7) : Int32 × Int32) =>
  if ((1 : Int32) <<< ((gN yn) &&& 31)) ≤ t7 then
    some (.inr t6)
  else
    Option.bind (if t6 = (-9) then
        some 1
      else
        Option.bind (fJ6_bitCount_0f7a4 t7) fun x10 =>
        Option.bind (fJ6_bitCount_0f7a4 t6) fun x11 =>
        if x11 ≤ x10 then
          some 0
        else
          some 1) fun (t9 : Int32) =>
    if t9 = 0 then
      some (.inl (t6, t7 + 1))
    else
      Option.bind (fX3_isEverywhereWithout t7 v1 yn t4) fun x12 =>
      if x12 = 0 then
        some (.inl (t6, t7 + 1))
      else
        some (.inl (t7, t7 + 1))

def fX3_hide (v1 : Int32) (yn : LandT) (ye : (Nat → Int32)) (yv : (Nat → Int32)) : Option (Int32 × (Nat → Int32) × (Nat → Int32)) :=
  Option.bind (fX3_isVerdict v1) fun x1 =>
  if x1 = 0 then
    Option.bind (fX3_refuse (-2) ye) fun x13 =>
    some (x13.1, x13.2, yv)
  else
    Option.bind (lp (bX3_hide_16 yn) fu (0, yv)) fun (t4 : (Nat → Int32)) =>
    Option.bind (lp (bX3_hide_47 v1 yn t4) fu ((-9), 0)) fun (t8 : Int32) =>
    some (t8, ye, t4)

def rmX3_hide : Room := { frames := 4, cells := 0, slots := 0, locals := 89 }
theorem mbX3_hide_f43 : Cond.fieldLink RX3 43 (TX3 7).1 (TX3 7).2.1 (TX3 7).2.2.1 ∈ wsX3_hide := by decide +kernel
theorem inX3_hide_X3 : ∀ w ∈ wsX30, w ∈ wsX3_hide := by decide +kernel
theorem mbX3_hide_f10 : Cond.fieldLink RX3 10 (TX3 0).1 (TX3 0).2.1 (TX3 0).2.2.1 ∈ wsX3_hide := by decide +kernel
theorem mbX3_hide_f210 : Cond.fieldLink RX3 210 (TX0 7).1 (TX0 7).2.1 (TX0 7).2.2.1 ∈ wsX3_hide := by decide +kernel
theorem inX3_hide_X0 : ∀ w ∈ wsX00, w ∈ wsX3_hide := by decide +kernel
theorem hdVX3_hide : yX3_hide.cls = RX3 ∧ yX3_hide.cls ≠ "java/lang/invoke/MethodHandle" ∧ yX3_hide.cls ≠ "java/lang/invoke/VarHandle" ∧ (parseMethodDescriptor yX3_hide.desc).map (fun d => d.parameters.length) = some 1 := by decide +kernel
set_option maxHeartbeats 4000000 in
set_option maxRecDepth 100000 in
theorem ctX3_hide {l : Launch} {D : va_G} {cI cJ cQ : ClassId} (ad : Nat → Nat) (yn : LandT) (ym : LandT) (yk : LandT) (yl : (Nat → Int32)) (yt : Int32) (yd : Int32) (yu : (Nat → Int32)) (ye : (Nat → Int32)) (yv : (Nat → Int32)) (yo : (Nat → Int64)) (y0 : (Nat → Int32)) (y1 : (Nat → Int32)) (yc : Int32) (yh : Int32) (v1 : Int32) {res : Int32 × (Nat → Int32) × (Nat → Int32)} (h : fX3_hide v1 yn ye yv = some res) : CtI l D cI cJ cQ yX3_hide wsX3_hide rmX3_hide [.ref (ad 0), .int v1] (wMn cI cJ cQ ad yn ym yk yl yt yd yu ye yv yo y0 y1 yc yh) res.1 (wMn cI cJ cQ ad yn ym yk yl yt yd yu res.2.1 res.2.2 yo y0 y1 yc yh) := by
  refine ctI_of .int (cc := cX3_hide) (maxL := 5) (by decide) rfl (Nat.le_of_ble_eq_true rfl) ?_
  intro p e s m args below meth c A Q ls F hK hA RET hH hl
  obtain ⟨hx, hb, hml, hown, hts⟩ := id F
  have hl : lv_has ls 5 [(0, .ref (ad 0)), (1, .int v1)] := hl
  have hf : wpO (fX3_hide v1 yn ye yv) (fun v => v = res) := ⟨_, h, rfl⟩
  obtain ⟨H, eH⟩ : ∃ H, H = s.heap := ⟨_, rfl⟩
  obtain ⟨locs, eL⟩ : ∃ locs : List Loc, locs = [] := ⟨_, rfl⟩
  have hH : Hs D A s.heap (wMn cI cJ cQ ad yn ym yk yl yt yd yu ye yv yo y0 y1 yc yh) H locs := by rw [eH, eL]; exact hH
  rw [← eL]
  suffices hgo : W p l e rmX3_hide s m args below meth c H locs 0 0 Q (F0 m 0 ls []) by rw [eH] at hgo; exact hgo
  clear eH eL
  refine lv_iload_n hx hb dX3_hide_0 rfl (lv_at hl 1 rfl) ?_
  obtain ⟨x1, hcl, hf⟩ := wp_b hf
  refine k_Si F hK hH hA hl.1 ⟨Nat.zero_le _, Nat.zero_le _⟩ [] [.int v1] [] (ctX3_isVerdict v1 hcl) (va_cwS 1 hts gX3_hide_X3_isVerdict rfl rfl rfl hdSX3_isVerdict ⟨Nat.le_of_ble_eq_true rfl, Nat.le_of_ble_eq_true rfl⟩) dX3_hide_1 rfl rfl (Nat.le_of_ble_eq_true rfl) rfl rfl (by decide) (fun H locs hH => ?_)
  have hH : Hs D A s.heap (wMn cI cJ cQ ad yn ym yk yl yt yd yu ye yv yo y0 y1 yc yh) H locs := hH
  refine lv_if_ne (tgt := 14) hx hb dX3_hide_4 (by decide) (fun hc => ?_) (fun hc => ?_)
  · have hf := wp_f hc hf
    refine lv_iconst (v := 0) hx hb dX3_hide_14 (by decide) ?_
    refine lv_istore_n (lv' := [(2, .int 0), (0, .ref (ad 0)), (1, .int v1)]) hx hb dX3_hide_15 rfl hl (by decide) rfl (fun ls hl => ?_)
    have LP : ∀ (Φ : ((Nat → Int32)) → Prop), (∀ (t4 : (Nat → Int32)) (H : Heap) (locs : List Loc) (ls : Array Slot), Φ (t4) → Hs D A s.heap (wMn cI cJ cQ ad yn ym yk yl yt yd yu ye t4 yo y0 y1 yc yh) H locs → lv_has ls 5 [(0, .ref (ad 0)), (1, .int v1)] → W p l e rmX3_hide s m args below meth c H locs 0 0 Q (F0 m 42 ls [])) → ∀ (n : Nat) (t2 : Int32) (t3 : (Nat → Int32)) (H : Heap) (locs : List Loc) (ls : Array Slot), wpO (lp (bX3_hide_16 yn) n (t2, t3)) Φ → Hs D A s.heap (wMn cI cJ cQ ad yn ym yk yl yt yd yu ye t3 yo y0 y1 yc yh) H locs → lv_has ls 5 [(0, .ref (ad 0)), (1, .int v1), (2, .int t2)] → W p l e rmX3_hide s m args below meth c H locs 0 0 Q (F0 m 16 ls []) := by
      intro Φ EX n
      induction n with
      | zero =>
        intro t2 t3 H locs ls hf hH hl
        exact (wp_l0 hf).elim
      | succ n ih =>
        intro t2 t3 H locs ls hf hH hl
        have hf := wp_l hf
        refine lv_iload_n hx hb dX3_hide_16 rfl (lv_at hl 2 rfl) ?_
        refine lv_bipush (v := 10) hx hb dX3_hide_17 (by decide) ?_
        refine lv_icmp_ge (tgt := 42) hx hb dX3_hide_19 (by decide) (fun hc => ?_) (fun hc => ?_)
        · have hf := wp_t hc hf
          have hw := wp_out hf
          exact EX _ _ _ _ hw hH (lv_sub hl [0, 1] rfl)
        · have hf := wp_f hc hf
          refine lv_aload_n hx hb dX3_hide_22 rfl (lv_at hl 0 rfl) ?_
          refine k_get (v := .ref (ad 30)) F hK hH 0 inX3_hide_X3 7 mbX3_hide_f43 dX3_hide_23 rfl rfl (by decide) rfl ?_
          refine lv_iload_n hx hb dX3_hide_26 rfl (lv_at hl 2 rfl) ?_
          refine lv_aload_n hx hb dX3_hide_27 rfl (lv_at hl 0 rfl) ?_
          refine k_get (v := .ref (ad 1)) F hK hH 0 inX3_hide_X3 0 mbX3_hide_f10 dX3_hide_28 rfl rfl (by decide) rfl ?_
          refine lv_iload_n hx hb dX3_hide_31 rfl (lv_at hl 2 rfl) ?_
          obtain ⟨x5, hcl, hf⟩ := wp_b hf
          refine k_Vi F hK hH hA hl.1 ⟨Nat.zero_le _, Nat.zero_le _⟩ [1, 2, 3, 4, 5, 6, 7, 8] [.int t2] [.int t2, .ref (ad 30)] (ctX0_sightFrom (fun k => ad (1 + k)) yn t2 hcl) (cwV 1 hts gX3_hide_X0_sightFrom rfl rfl rfl hdVX0_sightFrom ⟨Nat.le_of_ble_eq_true rfl, Nat.le_of_ble_eq_true rfl⟩) dX3_hide_32 1 rfl rfl rfl rfl rfl (Nat.le_of_ble_eq_true rfl) rfl rfl (by decide) (fun H locs hH => ?_)
          have hH : Hs D A s.heap (wMn cI cJ cQ ad yn ym yk yl yt yd yu ye t3 yo y0 y1 yc yh) H locs := hH
          obtain ⟨hi, hf⟩ := wp_n hf
          refine k_iast (f := t3) (n := 10) F hK hH 30 dX3_hide_35 hi rfl (fun H locs hH => ?_)
          have hH : Hs D A s.heap (wMn cI cJ cQ ad yn ym yk yl yt yd yu ye (upd t3 (Int32.toNatClampNeg t2) x5) yo y0 y1 yc yh) H locs := hH
          refine lv_iinc (v := t2 + 1) (lv' := [(2, .int (t2 + 1)), (0, .ref (ad 0)), (1, .int v1)]) hx hb dX3_hide_36 hl (k := 2) rfl rfl (by decide) rfl (fun ls hl => ?_)
          refine lv_goto (tgt := 16) hx hb dX3_hide_39 (by decide) ?_
          have hw := wp_in hf
          exact ih _ _ _ _ _ hw hH (lv_sub hl [1, 2, 0] rfl)
    refine LP _ (fun t4 H locs ls hf hH hl => ?_) fu _ _ _ _ _ (wp_bb hf) hH (lv_sub hl [1, 2, 0] rfl)
    refine lv_bipush (v := (-9)) hx hb dX3_hide_42 (by decide) ?_
    refine lv_istore_n (lv' := [(2, .int (-9)), (0, .ref (ad 0)), (1, .int v1)]) hx hb dX3_hide_44 rfl hl (by decide) rfl (fun ls hl => ?_)
    refine lv_iconst (v := 0) hx hb dX3_hide_45 (by decide) ?_
    refine lv_istore_n (lv' := [(3, .int 0), (2, .int (-9)), (0, .ref (ad 0)), (1, .int v1)]) hx hb dX3_hide_46 rfl hl (by decide) rfl (fun ls hl => ?_)
    have LP : ∀ (Φ : (Int32) → Prop), (∀ (t8 : Int32) (H : Heap) (locs : List Loc) (ls : Array Slot), Φ (t8) → Hs D A s.heap (wMn cI cJ cQ ad yn ym yk yl yt yd yu ye t4 yo y0 y1 yc yh) H locs → lv_has ls 5 [(2, .int t8)] → W p l e rmX3_hide s m args below meth c H locs 0 0 Q (F0 m 106 ls [])) → ∀ (n : Nat) (t6 : Int32) (t7 : Int32) (H : Heap) (locs : List Loc) (ls : Array Slot), wpO (lp (bX3_hide_47 v1 yn t4) n (t6, t7)) Φ → Hs D A s.heap (wMn cI cJ cQ ad yn ym yk yl yt yd yu ye t4 yo y0 y1 yc yh) H locs → lv_has ls 5 [(0, .ref (ad 0)), (1, .int v1), (2, .int t6), (3, .int t7)] → W p l e rmX3_hide s m args below meth c H locs 0 0 Q (F0 m 47 ls []) := by
      intro Φ EX n
      induction n with
      | zero =>
        intro t6 t7 H locs ls hf hH hl
        exact (wp_l0 hf).elim
      | succ n ih =>
        intro t6 t7 H locs ls hf hH hl
        have hf := wp_l hf
        refine lv_iload_n hx hb dX3_hide_47 rfl (lv_at hl 3 rfl) ?_
        refine lv_iconst (v := 1) hx hb dX3_hide_48 (by decide) ?_
        refine lv_aload_n hx hb dX3_hide_49 rfl (lv_at hl 0 rfl) ?_
        refine k_get (v := .ref (ad 1)) F hK hH 0 inX3_hide_X3 0 mbX3_hide_f10 dX3_hide_50 rfl rfl (by decide) rfl ?_
        refine k_get (v := .int (gN yn)) F hK hH 1 inX3_hide_X0 7 mbX3_hide_f210 dX3_hide_53 rfl rfl (by decide) rfl ?_
        refine lv_ishl hx hb dX3_hide_56 ?_
        refine lv_icmp_ge (tgt := 106) hx hb dX3_hide_57 (by decide) (fun hc => ?_) (fun hc => ?_)
        · have hf := wp_t hc hf
          have hw := wp_out hf
          exact EX _ _ _ _ hw hH (lv_sub hl [2] rfl)
        · have hf := wp_f hc hf
          refine lv_iload_n hx hb dX3_hide_60 rfl (lv_at hl 2 rfl) ?_
          refine lv_bipush (v := (-9)) hx hb dX3_hide_61 (by decide) ?_
          refine join_ (α := Int32) (fun Φ => ∀ (t9 : Int32) (H : Heap) (locs : List Loc) (ls : Array Slot), Φ t9 → Hs D A s.heap (wMn cI cJ cQ ad yn ym yk yl yt yd yu ye t4 yo y0 y1 yc yh) H locs → lv_has ls 5 [(0, .ref (ad 0)), (1, .int v1), (2, .int t6), (3, .int t7)] → W p l e rmX3_hide s m args below meth c H locs 0 0 Q (F0 m 82 ls [.int t9])) (wp_bb hf) ?_ ?_
          · intro t9 H locs ls hf hH hl
            refine lv_istore (lv' := [(4, .int t9), (0, .ref (ad 0)), (1, .int v1), (2, .int t6), (3, .int t7)]) hx hb dX3_hide_82 hl (by decide) rfl (fun ls hl => ?_)
            refine lv_iload hx hb dX3_hide_84 (lv_at hl 0 rfl) ?_
            refine lv_if_eq (tgt := 100) hx hb dX3_hide_86 (by decide) (fun hc => ?_) (fun hc => ?_)
            · have hf := wp_t hc hf
              refine lv_iinc (v := t7 + 1) (lv' := [(3, .int (t7 + 1)), (4, .int t9), (0, .ref (ad 0)), (1, .int v1), (2, .int t6)]) hx hb dX3_hide_100 hl (k := 4) rfl rfl (by decide) rfl (fun ls hl => ?_)
              refine lv_goto (tgt := 47) hx hb dX3_hide_103 (by decide) ?_
              have hw := wp_in hf
              exact ih _ _ _ _ _ hw hH (lv_sub hl [2, 3, 4, 0] rfl)
            · have hf := wp_f hc hf
              refine lv_aload_n hx hb dX3_hide_89 rfl (lv_at hl 1 rfl) ?_
              refine lv_iload_n hx hb dX3_hide_90 rfl (lv_at hl 4 rfl) ?_
              refine lv_iload_n hx hb dX3_hide_91 rfl (lv_at hl 2 rfl) ?_
              obtain ⟨x12, hcl, hf⟩ := wp_b hf
              refine k_Vi0 F hK hH hA hl.1 ⟨Nat.zero_le _, Nat.zero_le _⟩ [.int t7, .int v1] [] (ctX3_isEverywhereWithout ad yn ym yk yl yt yd yu ye t4 yo y0 y1 yc yh t7 v1 hcl) (cwV 2 hts gX3_hide_X3_isEverywhereWithout rfl rfl rfl hdVX3_isEverywhereWithout ⟨Nat.le_of_ble_eq_true rfl, Nat.le_of_ble_eq_true rfl⟩) dX3_hide_92 0 rfl rfl rfl rfl rfl (Nat.le_of_ble_eq_true rfl) rfl (fun H locs hH => ?_)
              have hH : Hs D A s.heap (wMn cI cJ cQ ad yn ym yk yl yt yd yu ye t4 yo y0 y1 yc yh) H locs := hH
              refine lv_if_eq (tgt := 100) hx hb dX3_hide_95 (by decide) (fun hc => ?_) (fun hc => ?_)
              · have hf := wp_t hc hf
                refine lv_iinc (v := t7 + 1) (lv' := [(3, .int (t7 + 1)), (4, .int t9), (0, .ref (ad 0)), (1, .int v1), (2, .int t6)]) hx hb dX3_hide_100 hl (k := 4) rfl rfl (by decide) rfl (fun ls hl => ?_)
                refine lv_goto (tgt := 47) hx hb dX3_hide_103 (by decide) ?_
                have hw := wp_in hf
                exact ih _ _ _ _ _ hw hH (lv_sub hl [2, 3, 4, 0] rfl)
              · have hf := wp_f hc hf
                refine lv_iload_n hx hb dX3_hide_98 rfl (lv_at hl 4 rfl) ?_
                refine lv_istore_n (lv' := [(2, .int t7), (4, .int t9), (0, .ref (ad 0)), (1, .int v1), (3, .int t7)]) hx hb dX3_hide_99 rfl hl (by decide) rfl (fun ls hl => ?_)
                refine lv_iinc (v := t7 + 1) (lv' := [(3, .int (t7 + 1)), (2, .int t7), (4, .int t9), (0, .ref (ad 0)), (1, .int v1)]) hx hb dX3_hide_100 hl (k := 4) rfl rfl (by decide) rfl (fun ls hl => ?_)
                refine lv_goto (tgt := 47) hx hb dX3_hide_103 (by decide) ?_
                have hw := wp_in hf
                exact ih _ _ _ _ _ hw hH (lv_sub hl [3, 4, 1, 0] rfl)
          · intro Φ JJ hf
            refine lv_icmp_eq (tgt := 77) hx hb dX3_hide_63 (by decide) (fun hc => ?_) (fun hc => ?_)
            · have hf := wp_t hc hf
              refine lv_iconst (v := 1) hx hb dX3_hide_77 (by decide) ?_
              refine lv_goto (tgt := 82) hx hb dX3_hide_78 (by decide) ?_
              have hw := wp_s hf
              exact JJ _ _ _ _ hw hH (lv_sub hl [0, 1, 2, 3] rfl)
            · have hf := wp_f hc hf
              refine lv_iload_n hx hb dX3_hide_66 rfl (lv_at hl 3 rfl) ?_
              obtain ⟨x10, hcl, hf⟩ := wp_b hf
              refine k_Si F hK hH hA hl.1 ⟨Nat.zero_le _, Nat.zero_le _⟩ [] [.int t7] [] (ctJ6_bitCount_0f7a4 t7 hcl) (va_cwS 1 hts gX3_hide_J6_bitCount_0f7a4 rfl rfl rfl hdSJ6_bitCount_0f7a4 ⟨Nat.le_of_ble_eq_true rfl, Nat.le_of_ble_eq_true rfl⟩) dX3_hide_67 rfl rfl (Nat.le_of_ble_eq_true rfl) rfl rfl (by decide) (fun H locs hH => ?_)
              have hH : Hs D A s.heap (wMn cI cJ cQ ad yn ym yk yl yt yd yu ye t4 yo y0 y1 yc yh) H locs := hH
              refine lv_iload_n hx hb dX3_hide_70 rfl (lv_at hl 2 rfl) ?_
              obtain ⟨x11, hcl, hf⟩ := wp_b hf
              refine k_Si F hK hH hA hl.1 ⟨Nat.zero_le _, Nat.zero_le _⟩ [] [.int t6] [.int x10] (ctJ6_bitCount_0f7a4 t6 hcl) (va_cwS 1 hts gX3_hide_J6_bitCount_0f7a4 rfl rfl rfl hdSJ6_bitCount_0f7a4 ⟨Nat.le_of_ble_eq_true rfl, Nat.le_of_ble_eq_true rfl⟩) dX3_hide_71 rfl rfl (Nat.le_of_ble_eq_true rfl) rfl rfl (by decide) (fun H locs hH => ?_)
              have hH : Hs D A s.heap (wMn cI cJ cQ ad yn ym yk yl yt yd yu ye t4 yo y0 y1 yc yh) H locs := hH
              refine lv_icmp_ge (tgt := 81) hx hb dX3_hide_74 (by decide) (fun hc => ?_) (fun hc => ?_)
              · have hf := wp_t hc hf
                refine lv_iconst (v := 0) hx hb dX3_hide_81 (by decide) ?_
                have hw := wp_s hf
                exact JJ _ _ _ _ hw hH (lv_sub hl [0, 1, 2, 3] rfl)
              · have hf := wp_f hc hf
                refine lv_iconst (v := 1) hx hb dX3_hide_77 (by decide) ?_
                refine lv_goto (tgt := 82) hx hb dX3_hide_78 (by decide) ?_
                have hw := wp_s hf
                exact JJ _ _ _ _ hw hH (lv_sub hl [0, 1, 2, 3] rfl)
    refine LP _ (fun t8 H locs ls hf hH hl => ?_) fu _ _ _ _ _ (wp_bb hf) hH (lv_sub hl [2, 3, 1, 0] rfl)
    refine lv_iload_n hx hb dX3_hide_106 rfl (lv_at hl 0 rfl) ?_
    have hrs := wp_s hf
    subst hrs
    exact RET H locs ls 107 dX3_hide_107 rfl hH
  · have hf := wp_t hc hf
    refine lv_aload_n hx hb dX3_hide_7 rfl (lv_at hl 0 rfl) ?_
    refine lv_bipush (v := (-2)) hx hb dX3_hide_8 (by decide) ?_
    obtain ⟨x13, hcl, hf⟩ := wp_b hf
    refine k_Vi0 F hK hH hA hl.1 ⟨Nat.zero_le _, Nat.zero_le _⟩ [.int (-2)] [] (ctX3_refuse ad yn ym yk yl yt yd yu ye yv yo y0 y1 yc yh (-2) hcl) (cwV 1 hts gX3_hide_X3_refuse rfl rfl rfl hdVX3_refuse ⟨Nat.le_of_ble_eq_true rfl, Nat.le_of_ble_eq_true rfl⟩) dX3_hide_10 0 rfl rfl rfl rfl rfl (Nat.le_of_ble_eq_true rfl) rfl (fun H locs hH => ?_)
    have hH : Hs D A s.heap (wMn cI cJ cQ ad yn ym yk yl yt yd yu x13.2 yv yo y0 y1 yc yh) H locs := hH
    refine W.eq (g2 := F0 m 13 ls [.int x13.1]) rfl ?_
    have hrs := wp_s hf
    subst hrs
    exact RET H locs ls 13 dX3_hide_13 rfl hH

def bX3_eyesBest_51 (v1 : Int32) (v2 : Int32) : (Int32 × Int32 × Int32 × LandT) → Option ((Int32 × Int32 × Int32 × LandT) ⊕ (Int32 × Int32 × LandT)) := fun ((t6, t7, t8, t9) : Int32 × Int32 × Int32 × LandT) =>
  if (16 : Int32) < t8 then
    some (.inr (t6, t7, t9))
  else
    Option.bind (fX0_verdictFrom v1 (gH t9, gR t9, gK t9, gF t9, gP t9, gV t9, gQ t9, gN t9, gD t9, t8, gT t9)) fun x13 =>
    if x13 = v2 then
      Option.bind (if t6 = (-9) then
          some t8
        else
          some t6) fun (t14 : Int32) =>
      some (.inl (t14, t8, t8 + 1, (gH t9, gR t9, gK t9, gF t9, gP t9, gV t9, gQ t9, gN t9, gD t9, t8, gT t9)))
    else
      some (.inl (t6, t7, t8 + 1, (gH t9, gR t9, gK t9, gF t9, gP t9, gV t9, gQ t9, gN t9, gD t9, t8, gT t9)))

def fX3_eyesBest (v1 : Int32) (v2 : Int32) (v3 : Int32) (yn : LandT) (ym : LandT) (ye : (Nat → Int32)) : Option (Int32 × LandT × (Nat → Int32)) :=
  Option.bind (fX3_isBranch v1) fun x1 =>
  if x1 = 0 then
    Option.bind (fX3_refuse (-1) ye) fun x16 =>
    some (x16.1, ym, x16.2)
  else
    Option.bind (fX3_isVerdict v2) fun x2 =>
    if x2 = 0 then
      Option.bind (fX3_refuse (-2) ye) fun x3 =>
      some (x3.1, ym, x3.2)
    else
      Option.bind (fX3_isEither v3) fun x4 =>
      if x4 = 0 then
        Option.bind (fX3_refuse (-2) ye) fun x15 =>
        some (x15.1, ym, x15.2)
      else
        Option.bind (fX3_inMind yn ym) fun x5 =>
        Option.bind (lp (bX3_eyesBest_51 v1 v2) fu ((-9), (-9), 0, x5)) fun ((t10, t11, t12) : Int32 × Int32 × LandT) =>
        if v3 = 0 then
          some (t10, t12, ye)
        else
          some (t11, t12, ye)

def rmX3_eyesBest : Room := { frames := 5, cells := 0, slots := 0, locals := 110 }
theorem mbX3_eyesBest_f152 : Cond.fieldLink RX3 152 (TX0 9).1 (TX0 9).2.1 (TX0 9).2.2.1 ∈ wsX3_eyesBest := by decide +kernel
theorem inX3_eyesBest_X0 : ∀ w ∈ wsX00, w ∈ wsX3_eyesBest := by decide +kernel
theorem hdVX3_eyesBest : yX3_eyesBest.cls = RX3 ∧ yX3_eyesBest.cls ≠ "java/lang/invoke/MethodHandle" ∧ yX3_eyesBest.cls ≠ "java/lang/invoke/VarHandle" ∧ (parseMethodDescriptor yX3_eyesBest.desc).map (fun d => d.parameters.length) = some 3 := by decide +kernel
set_option maxHeartbeats 4000000 in
set_option maxRecDepth 100000 in
theorem ctX3_eyesBest {l : Launch} {D : va_G} {cI cJ cQ : ClassId} (ad : Nat → Nat) (yn : LandT) (ym : LandT) (yk : LandT) (yl : (Nat → Int32)) (yt : Int32) (yd : Int32) (yu : (Nat → Int32)) (ye : (Nat → Int32)) (yv : (Nat → Int32)) (yo : (Nat → Int64)) (y0 : (Nat → Int32)) (y1 : (Nat → Int32)) (yc : Int32) (yh : Int32) (v1 : Int32) (v2 : Int32) (v3 : Int32) {res : Int32 × LandT × (Nat → Int32)} (h : fX3_eyesBest v1 v2 v3 yn ym ye = some res) : CtI l D cI cJ cQ yX3_eyesBest wsX3_eyesBest rmX3_eyesBest [.ref (ad 0), .int v1, .int v2, .int v3] (wMn cI cJ cQ ad yn ym yk yl yt yd yu ye yv yo y0 y1 yc yh) res.1 (wMn cI cJ cQ ad yn res.2.1 yk yl yt yd yu res.2.2 yv yo y0 y1 yc yh) := by
  refine ctI_of .int (cc := cX3_eyesBest) (maxL := 8) (by decide) rfl (Nat.le_of_ble_eq_true rfl) ?_
  intro p e s m args below meth c A Q ls F hK hA RET hH hl
  obtain ⟨hx, hb, hml, hown, hts⟩ := id F
  have hl : lv_has ls 8 [(0, .ref (ad 0)), (1, .int v1), (2, .int v2), (3, .int v3)] := hl
  have hf : wpO (fX3_eyesBest v1 v2 v3 yn ym ye) (fun v => v = res) := ⟨_, h, rfl⟩
  obtain ⟨H, eH⟩ : ∃ H, H = s.heap := ⟨_, rfl⟩
  obtain ⟨locs, eL⟩ : ∃ locs : List Loc, locs = [] := ⟨_, rfl⟩
  have hH : Hs D A s.heap (wMn cI cJ cQ ad yn ym yk yl yt yd yu ye yv yo y0 y1 yc yh) H locs := by rw [eH, eL]; exact hH
  rw [← eL]
  suffices hgo : W p l e rmX3_eyesBest s m args below meth c H locs 0 0 Q (F0 m 0 ls []) by rw [eH] at hgo; exact hgo
  clear eH eL
  refine lv_iload_n hx hb dX3_eyesBest_0 rfl (lv_at hl 1 rfl) ?_
  obtain ⟨x1, hcl, hf⟩ := wp_b hf
  refine k_Si F hK hH hA hl.1 ⟨Nat.zero_le _, Nat.zero_le _⟩ [] [.int v1] [] (ctX3_isBranch v1 hcl) (va_cwS 1 hts gX3_eyesBest_X3_isBranch rfl rfl rfl hdSX3_isBranch ⟨Nat.le_of_ble_eq_true rfl, Nat.le_of_ble_eq_true rfl⟩) dX3_eyesBest_1 rfl rfl (Nat.le_of_ble_eq_true rfl) rfl rfl (by decide) (fun H locs hH => ?_)
  have hH : Hs D A s.heap (wMn cI cJ cQ ad yn ym yk yl yt yd yu ye yv yo y0 y1 yc yh) H locs := hH
  refine lv_if_ne (tgt := 13) hx hb dX3_eyesBest_4 (by decide) (fun hc => ?_) (fun hc => ?_)
  · have hf := wp_f hc hf
    refine lv_iload_n hx hb dX3_eyesBest_13 rfl (lv_at hl 2 rfl) ?_
    obtain ⟨x2, hcl, hf⟩ := wp_b hf
    refine k_Si F hK hH hA hl.1 ⟨Nat.zero_le _, Nat.zero_le _⟩ [] [.int v2] [] (ctX3_isVerdict v2 hcl) (va_cwS 1 hts gX3_eyesBest_X3_isVerdict rfl rfl rfl hdSX3_isVerdict ⟨Nat.le_of_ble_eq_true rfl, Nat.le_of_ble_eq_true rfl⟩) dX3_eyesBest_14 rfl rfl (Nat.le_of_ble_eq_true rfl) rfl rfl (by decide) (fun H locs hH => ?_)
    have hH : Hs D A s.heap (wMn cI cJ cQ ad yn ym yk yl yt yd yu ye yv yo y0 y1 yc yh) H locs := hH
    refine lv_if_eq (tgt := 27) hx hb dX3_eyesBest_17 (by decide) (fun hc => ?_) (fun hc => ?_)
    · have hf := wp_t hc hf
      refine lv_aload_n hx hb dX3_eyesBest_27 rfl (lv_at hl 0 rfl) ?_
      refine lv_bipush (v := (-2)) hx hb dX3_eyesBest_28 (by decide) ?_
      obtain ⟨x3, hcl, hf⟩ := wp_b hf
      refine k_Vi0 F hK hH hA hl.1 ⟨Nat.zero_le _, Nat.zero_le _⟩ [.int (-2)] [] (ctX3_refuse ad yn ym yk yl yt yd yu ye yv yo y0 y1 yc yh (-2) hcl) (cwV 1 hts gX3_eyesBest_X3_refuse rfl rfl rfl hdVX3_refuse ⟨Nat.le_of_ble_eq_true rfl, Nat.le_of_ble_eq_true rfl⟩) dX3_eyesBest_30 0 rfl rfl rfl rfl rfl (Nat.le_of_ble_eq_true rfl) rfl (fun H locs hH => ?_)
      have hH : Hs D A s.heap (wMn cI cJ cQ ad yn ym yk yl yt yd yu x3.2 yv yo y0 y1 yc yh) H locs := hH
      refine W.eq (g2 := F0 m 33 ls [.int x3.1]) rfl ?_
      have hrs := wp_s hf
      subst hrs
      exact RET H locs ls 33 dX3_eyesBest_33 rfl hH
    · have hf := wp_f hc hf
      refine lv_iload_n hx hb dX3_eyesBest_20 rfl (lv_at hl 3 rfl) ?_
      obtain ⟨x4, hcl, hf⟩ := wp_b hf
      refine k_Si F hK hH hA hl.1 ⟨Nat.zero_le _, Nat.zero_le _⟩ [] [.int v3] [] (ctX3_isEither v3 hcl) (va_cwS 1 hts gX3_eyesBest_X3_isEither rfl rfl rfl hdSX3_isEither ⟨Nat.le_of_ble_eq_true rfl, Nat.le_of_ble_eq_true rfl⟩) dX3_eyesBest_21 rfl rfl (Nat.le_of_ble_eq_true rfl) rfl rfl (by decide) (fun H locs hH => ?_)
      have hH : Hs D A s.heap (wMn cI cJ cQ ad yn ym yk yl yt yd yu ye yv yo y0 y1 yc yh) H locs := hH
      refine lv_if_ne (tgt := 34) hx hb dX3_eyesBest_24 (by decide) (fun hc => ?_) (fun hc => ?_)
      · have hf := wp_f hc hf
        refine lv_bipush (v := (-9)) hx hb dX3_eyesBest_34 (by decide) ?_
        refine lv_istore (lv' := [(4, .int (-9)), (0, .ref (ad 0)), (1, .int v1), (2, .int v2), (3, .int v3)]) hx hb dX3_eyesBest_36 hl (by decide) rfl (fun ls hl => ?_)
        refine lv_bipush (v := (-9)) hx hb dX3_eyesBest_38 (by decide) ?_
        refine lv_istore (lv' := [(5, .int (-9)), (4, .int (-9)), (0, .ref (ad 0)), (1, .int v1), (2, .int v2), (3, .int v3)]) hx hb dX3_eyesBest_40 hl (by decide) rfl (fun ls hl => ?_)
        refine lv_aload_n hx hb dX3_eyesBest_42 rfl (lv_at hl 2 rfl) ?_
        obtain ⟨x5, hcl, hf⟩ := wp_b hf
        refine k_Vr0 F hK hH hA hl.1 ⟨Nat.zero_le _, Nat.zero_le _⟩ [] [] (ctX3_inMind ad yn ym yk yl yt yd yu ye yv yo y0 y1 yc yh hcl) (cwV 0 hts gX3_eyesBest_X3_inMind rfl rfl rfl hdVX3_inMind ⟨Nat.le_of_ble_eq_true rfl, Nat.le_of_ble_eq_true rfl⟩) dX3_eyesBest_43 0 rfl rfl rfl rfl rfl (Nat.le_of_ble_eq_true rfl) rfl (fun H locs hH => ?_)
        have hH : Hs D A s.heap (wMn cI cJ cQ ad yn x5 yk yl yt yd yu ye yv yo y0 y1 yc yh) H locs := hH
        refine W.eq (g2 := F0 m 46 ls [.ref (ad 9)]) rfl ?_
        refine lv_astore (lv' := [(6, .ref (ad 9)), (5, .int (-9)), (4, .int (-9)), (0, .ref (ad 0)), (1, .int v1), (2, .int v2), (3, .int v3)]) hx hb dX3_eyesBest_46 hl (by decide) rfl (fun ls hl => ?_)
        refine lv_iconst (v := 0) hx hb dX3_eyesBest_48 (by decide) ?_
        refine lv_istore (lv' := [(7, .int 0), (6, .ref (ad 9)), (5, .int (-9)), (4, .int (-9)), (0, .ref (ad 0)), (1, .int v1), (2, .int v2), (3, .int v3)]) hx hb dX3_eyesBest_49 hl (by decide) rfl (fun ls hl => ?_)
        have LP : ∀ (Φ : (Int32 × Int32 × LandT) → Prop), (∀ (t10 : Int32) (t11 : Int32) (t12 : LandT) (H : Heap) (locs : List Loc) (ls : Array Slot), Φ ((t10, t11, t12)) → Hs D A s.heap (wMn cI cJ cQ ad yn t12 yk yl yt yd yu ye yv yo y0 y1 yc yh) H locs → lv_has ls 8 [(3, .int v3), (4, .int t10), (5, .int t11)] → W p l e rmX3_eyesBest s m args below meth c H locs 0 0 Q (F0 m 101 ls [])) → ∀ (n : Nat) (t6 : Int32) (t7 : Int32) (t8 : Int32) (t9 : LandT) (H : Heap) (locs : List Loc) (ls : Array Slot), wpO (lp (bX3_eyesBest_51 v1 v2) n (t6, t7, t8, t9)) Φ → Hs D A s.heap (wMn cI cJ cQ ad yn t9 yk yl yt yd yu ye yv yo y0 y1 yc yh) H locs → lv_has ls 8 [(1, .int v1), (2, .int v2), (3, .int v3), (4, .int t6), (5, .int t7), (6, .ref (ad 9)), (7, .int t8)] → W p l e rmX3_eyesBest s m args below meth c H locs 0 0 Q (F0 m 51 ls []) := by
          intro Φ EX n
          induction n with
          | zero =>
            intro t6 t7 t8 t9 H locs ls hf hH hl
            exact (wp_l0 hf).elim
          | succ n ih =>
            intro t6 t7 t8 t9 H locs ls hf hH hl
            have hf := wp_l hf
            refine lv_iload hx hb dX3_eyesBest_51 (lv_at hl 6 rfl) ?_
            refine lv_bipush (v := 16) hx hb dX3_eyesBest_53 (by decide) ?_
            refine lv_icmp_gt (tgt := 101) hx hb dX3_eyesBest_55 (by decide) (fun hc => ?_) (fun hc => ?_)
            · have hf := wp_t hc hf
              have hw := wp_out hf
              exact EX _ _ _ _ _ _ hw hH (lv_sub hl [2, 3, 4] rfl)
            · have hf := wp_f hc hf
              refine lv_aload hx hb dX3_eyesBest_58 (lv_at hl 5 rfl) ?_
              refine lv_iload hx hb dX3_eyesBest_60 (lv_at hl 6 rfl) ?_
              refine k_put (v := .int t8) F hK hH 9 inX3_eyesBest_X0 tyX0 tyX0_ok nmX0 9 mbX3_eyesBest_f152 dX3_eyesBest_62 rfl rfl (by decide) rfl rfl rfl (Nat.le_of_ble_eq_true rfl) (fun H locs hH => ?_)
              have hH : Hs D A s.heap (wMn cI cJ cQ ad yn (gH t9, gR t9, gK t9, gF t9, gP t9, gV t9, gQ t9, gN t9, gD t9, t8, gT t9) yk yl yt yd yu ye yv yo y0 y1 yc yh) H locs := hH
              refine lv_aload hx hb dX3_eyesBest_65 (lv_at hl 5 rfl) ?_
              refine lv_iload_n hx hb dX3_eyesBest_67 rfl (lv_at hl 0 rfl) ?_
              obtain ⟨x13, hcl, hf⟩ := wp_b hf
              refine k_Vi F hK hH hA hl.1 ⟨Nat.zero_le _, Nat.zero_le _⟩ [9, 10, 11, 12, 13, 14, 15, 16] [.int v1] [] (ctX0_verdictFrom (fun k => ad (9 + k)) (gH t9, gR t9, gK t9, gF t9, gP t9, gV t9, gQ t9, gN t9, gD t9, t8, gT t9) v1 hcl) (cwV 1 hts gX3_eyesBest_X0_verdictFrom rfl rfl rfl hdVX0_verdictFrom ⟨Nat.le_of_ble_eq_true rfl, Nat.le_of_ble_eq_true rfl⟩) dX3_eyesBest_68 9 rfl rfl rfl rfl rfl (Nat.le_of_ble_eq_true rfl) rfl rfl (by decide) (fun H locs hH => ?_)
              have hH : Hs D A s.heap (wMn cI cJ cQ ad yn (gH t9, gR t9, gK t9, gF t9, gP t9, gV t9, gQ t9, gN t9, gD t9, t8, gT t9) yk yl yt yd yu ye yv yo y0 y1 yc yh) H locs := hH
              refine lv_iload_n hx hb dX3_eyesBest_71 rfl (lv_at hl 1 rfl) ?_
              refine lv_icmp_ne (tgt := 95) hx hb dX3_eyesBest_72 (by decide) (fun hc => ?_) (fun hc => ?_)
              · have hf := wp_f hc hf
                refine lv_iinc (v := t8 + 1) (lv' := [(7, .int (t8 + 1)), (1, .int v1), (2, .int v2), (3, .int v3), (4, .int t6), (5, .int t7), (6, .ref (ad 9))]) hx hb dX3_eyesBest_95 hl (k := 6) rfl rfl (by decide) rfl (fun ls hl => ?_)
                refine lv_goto (tgt := 51) hx hb dX3_eyesBest_98 (by decide) ?_
                have hw := wp_in hf
                exact ih _ _ _ _ _ _ _ hw hH (lv_sub hl [1, 2, 3, 4, 5, 6, 0] rfl)
              · have hf := wp_t hc hf
                refine lv_iload hx hb dX3_eyesBest_75 (lv_at hl 3 rfl) ?_
                refine lv_bipush (v := (-9)) hx hb dX3_eyesBest_77 (by decide) ?_
                refine join_ (α := Int32) (fun Φ => ∀ (t14 : Int32) (H : Heap) (locs : List Loc) (ls : Array Slot), Φ t14 → Hs D A s.heap (wMn cI cJ cQ ad yn (gH t9, gR t9, gK t9, gF t9, gP t9, gV t9, gQ t9, gN t9, gD t9, t8, gT t9) yk yl yt yd yu ye yv yo y0 y1 yc yh) H locs → lv_has ls 8 [(1, .int v1), (2, .int v2), (3, .int v3), (6, .ref (ad 9)), (7, .int t8)] → W p l e rmX3_eyesBest s m args below meth c H locs 0 0 Q (F0 m 89 ls [.int t14])) (wp_bb hf) ?_ ?_
                · intro t14 H locs ls hf hH hl
                  refine lv_istore (lv' := [(4, .int t14), (1, .int v1), (2, .int v2), (3, .int v3), (6, .ref (ad 9)), (7, .int t8)]) hx hb dX3_eyesBest_89 hl (by decide) rfl (fun ls hl => ?_)
                  refine lv_iload hx hb dX3_eyesBest_91 (lv_at hl 5 rfl) ?_
                  refine lv_istore (lv' := [(5, .int t8), (4, .int t14), (1, .int v1), (2, .int v2), (3, .int v3), (6, .ref (ad 9)), (7, .int t8)]) hx hb dX3_eyesBest_93 hl (by decide) rfl (fun ls hl => ?_)
                  refine lv_iinc (v := t8 + 1) (lv' := [(7, .int (t8 + 1)), (5, .int t8), (4, .int t14), (1, .int v1), (2, .int v2), (3, .int v3), (6, .ref (ad 9))]) hx hb dX3_eyesBest_95 hl (k := 6) rfl rfl (by decide) rfl (fun ls hl => ?_)
                  refine lv_goto (tgt := 51) hx hb dX3_eyesBest_98 (by decide) ?_
                  have hw := wp_in hf
                  exact ih _ _ _ _ _ _ _ hw hH (lv_sub hl [3, 4, 5, 2, 1, 6, 0] rfl)
                · intro Φ JJ hf
                  refine lv_icmp_ne (tgt := 87) hx hb dX3_eyesBest_79 (by decide) (fun hc => ?_) (fun hc => ?_)
                  · have hf := wp_f hc hf
                    refine lv_iload hx hb dX3_eyesBest_87 (lv_at hl 3 rfl) ?_
                    have hw := wp_s hf
                    exact JJ _ _ _ _ hw hH (lv_sub hl [0, 1, 2, 5, 6] rfl)
                  · have hf := wp_t hc hf
                    refine lv_iload hx hb dX3_eyesBest_82 (lv_at hl 6 rfl) ?_
                    refine lv_goto (tgt := 89) hx hb dX3_eyesBest_84 (by decide) ?_
                    have hw := wp_s hf
                    exact JJ _ _ _ _ hw hH (lv_sub hl [0, 1, 2, 5, 6] rfl)
        refine LP _ (fun t10 t11 t12 H locs ls hf hH hl => ?_) fu _ _ _ _ _ _ _ (wp_bb hf) hH (lv_sub hl [5, 6, 7, 3, 2, 1, 0] rfl)
        refine lv_iload_n hx hb dX3_eyesBest_101 rfl (lv_at hl 0 rfl) ?_
        refine lv_if_ne (tgt := 110) hx hb dX3_eyesBest_102 (by decide) (fun hc => ?_) (fun hc => ?_)
        · have hf := wp_f hc hf
          refine lv_iload hx hb dX3_eyesBest_110 (lv_at hl 2 rfl) ?_
          have hrs := wp_s hf
          subst hrs
          exact RET H locs ls 112 dX3_eyesBest_112 rfl hH
        · have hf := wp_t hc hf
          refine lv_iload hx hb dX3_eyesBest_105 (lv_at hl 1 rfl) ?_
          refine lv_goto (tgt := 112) hx hb dX3_eyesBest_107 (by decide) ?_
          have hrs := wp_s hf
          subst hrs
          exact RET H locs ls 112 dX3_eyesBest_112 rfl hH
      · have hf := wp_t hc hf
        refine lv_aload_n hx hb dX3_eyesBest_27 rfl (lv_at hl 0 rfl) ?_
        refine lv_bipush (v := (-2)) hx hb dX3_eyesBest_28 (by decide) ?_
        obtain ⟨x15, hcl, hf⟩ := wp_b hf
        refine k_Vi0 F hK hH hA hl.1 ⟨Nat.zero_le _, Nat.zero_le _⟩ [.int (-2)] [] (ctX3_refuse ad yn ym yk yl yt yd yu ye yv yo y0 y1 yc yh (-2) hcl) (cwV 1 hts gX3_eyesBest_X3_refuse rfl rfl rfl hdVX3_refuse ⟨Nat.le_of_ble_eq_true rfl, Nat.le_of_ble_eq_true rfl⟩) dX3_eyesBest_30 0 rfl rfl rfl rfl rfl (Nat.le_of_ble_eq_true rfl) rfl (fun H locs hH => ?_)
        have hH : Hs D A s.heap (wMn cI cJ cQ ad yn ym yk yl yt yd yu x15.2 yv yo y0 y1 yc yh) H locs := hH
        refine W.eq (g2 := F0 m 33 ls [.int x15.1]) rfl ?_
        have hrs := wp_s hf
        subst hrs
        exact RET H locs ls 33 dX3_eyesBest_33 rfl hH
  · have hf := wp_t hc hf
    refine lv_aload_n hx hb dX3_eyesBest_7 rfl (lv_at hl 0 rfl) ?_
    refine lv_iconst (v := (-1)) hx hb dX3_eyesBest_8 (by decide) ?_
    obtain ⟨x16, hcl, hf⟩ := wp_b hf
    refine k_Vi0 F hK hH hA hl.1 ⟨Nat.zero_le _, Nat.zero_le _⟩ [.int (-1)] [] (ctX3_refuse ad yn ym yk yl yt yd yu ye yv yo y0 y1 yc yh (-1) hcl) (cwV 1 hts gX3_eyesBest_X3_refuse rfl rfl rfl hdVX3_refuse ⟨Nat.le_of_ble_eq_true rfl, Nat.le_of_ble_eq_true rfl⟩) dX3_eyesBest_9 0 rfl rfl rfl rfl rfl (Nat.le_of_ble_eq_true rfl) rfl (fun H locs hH => ?_)
    have hH : Hs D A s.heap (wMn cI cJ cQ ad yn ym yk yl yt yd yu x16.2 yv yo y0 y1 yc yh) H locs := hH
    refine W.eq (g2 := F0 m 12 ls [.int x16.1]) rfl ?_
    have hrs := wp_s hf
    subst hrs
    exact RET H locs ls 12 dX3_eyesBest_12 rfl hH

def bX3_ranked_29 (v1 : Int32) (yn : LandT) : (Int32 × Int32 × Int32 × LandT) → Option ((Int32 × Int32 × Int32 × LandT) ⊕ (Int32 × Int32 × LandT)) := fun ((t4, t5, t6, t7) : Int32 × Int32 × Int32 × LandT) =>
  if (6 : Int32) ≤ t6 then
    some (.inr (t4, t5, t7))
  else
    Option.bind (fX3_inMind yn t7) fun x11 =>
    if ob t6 6 then none else
    Option.bind (fX0_branchesWith v1 (gH x11, gR x11, gK x11, gF x11, gP x11, gV x11, upd (gQ x11) (Int32.toNatClampNeg t6) 10, gN x11, gD x11, gE x11, gT x11)) fun x12 =>
    Option.bind (fJ6_bitCount_0f7a4 x12) fun x13 =>
    if x13 ≤ t5 then
      some (.inl (t4, t5, t6 + 1, (gH x11, gR x11, gK x11, gF x11, gP x11, gV x11, upd (gQ x11) (Int32.toNatClampNeg t6) 10, gN x11, gD x11, gE x11, gT x11)))
    else
      some (.inl (t6, x13, t6 + 1, (gH x11, gR x11, gK x11, gF x11, gP x11, gV x11, upd (gQ x11) (Int32.toNatClampNeg t6) 10, gN x11, gD x11, gE x11, gT x11)))

def fX3_ranked (v1 : Int32) (v2 : Int32) (yn : LandT) (ym : LandT) (ye : (Nat → Int32)) : Option (Int32 × LandT × (Nat → Int32)) :=
  Option.bind (fX3_isVerdict v1) fun x1 =>
  if x1 = 0 then
    Option.bind (fX3_refuse (-2) ye) fun x2 =>
    some (x2.1, ym, x2.2)
  else
    Option.bind (fX3_isEither v2) fun x3 =>
    if x3 = 0 then
      Option.bind (fX3_refuse (-2) ye) fun x14 =>
      some (x14.1, ym, x14.2)
    else
      Option.bind (lp (bX3_ranked_29 v1 yn) fu (0, (-1), 0, ym)) fun ((t8, t9, t10) : Int32 × Int32 × LandT) =>
      if v2 = 0 then
        some (t8, t10, ye)
      else
        some (t9, t10, ye)

def rmX3_ranked : Room := { frames := 5, cells := 0, slots := 0, locals := 112 }
theorem mbX3_ranked_f130 : Cond.fieldLink RX3 130 (TX0 6).1 (TX0 6).2.1 (TX0 6).2.2.1 ∈ wsX3_ranked := by decide +kernel
theorem inX3_ranked_X0 : ∀ w ∈ wsX00, w ∈ wsX3_ranked := by decide +kernel
theorem hdVX3_ranked : yX3_ranked.cls = RX3 ∧ yX3_ranked.cls ≠ "java/lang/invoke/MethodHandle" ∧ yX3_ranked.cls ≠ "java/lang/invoke/VarHandle" ∧ (parseMethodDescriptor yX3_ranked.desc).map (fun d => d.parameters.length) = some 2 := by decide +kernel
set_option maxHeartbeats 4000000 in
set_option maxRecDepth 100000 in
theorem ctX3_ranked {l : Launch} {D : va_G} {cI cJ cQ : ClassId} (ad : Nat → Nat) (yn : LandT) (ym : LandT) (yk : LandT) (yl : (Nat → Int32)) (yt : Int32) (yd : Int32) (yu : (Nat → Int32)) (ye : (Nat → Int32)) (yv : (Nat → Int32)) (yo : (Nat → Int64)) (y0 : (Nat → Int32)) (y1 : (Nat → Int32)) (yc : Int32) (yh : Int32) (v1 : Int32) (v2 : Int32) {res : Int32 × LandT × (Nat → Int32)} (h : fX3_ranked v1 v2 yn ym ye = some res) : CtI l D cI cJ cQ yX3_ranked wsX3_ranked rmX3_ranked [.ref (ad 0), .int v1, .int v2] (wMn cI cJ cQ ad yn ym yk yl yt yd yu ye yv yo y0 y1 yc yh) res.1 (wMn cI cJ cQ ad yn res.2.1 yk yl yt yd yu res.2.2 yv yo y0 y1 yc yh) := by
  refine ctI_of .int (cc := cX3_ranked) (maxL := 8) (by decide) rfl (Nat.le_of_ble_eq_true rfl) ?_
  intro p e s m args below meth c A Q ls F hK hA RET hH hl
  obtain ⟨hx, hb, hml, hown, hts⟩ := id F
  have hl : lv_has ls 8 [(0, .ref (ad 0)), (1, .int v1), (2, .int v2)] := hl
  have hf : wpO (fX3_ranked v1 v2 yn ym ye) (fun v => v = res) := ⟨_, h, rfl⟩
  obtain ⟨H, eH⟩ : ∃ H, H = s.heap := ⟨_, rfl⟩
  obtain ⟨locs, eL⟩ : ∃ locs : List Loc, locs = [] := ⟨_, rfl⟩
  have hH : Hs D A s.heap (wMn cI cJ cQ ad yn ym yk yl yt yd yu ye yv yo y0 y1 yc yh) H locs := by rw [eH, eL]; exact hH
  rw [← eL]
  suffices hgo : W p l e rmX3_ranked s m args below meth c H locs 0 0 Q (F0 m 0 ls []) by rw [eH] at hgo; exact hgo
  clear eH eL
  refine lv_iload_n hx hb dX3_ranked_0 rfl (lv_at hl 1 rfl) ?_
  obtain ⟨x1, hcl, hf⟩ := wp_b hf
  refine k_Si F hK hH hA hl.1 ⟨Nat.zero_le _, Nat.zero_le _⟩ [] [.int v1] [] (ctX3_isVerdict v1 hcl) (va_cwS 1 hts gX3_ranked_X3_isVerdict rfl rfl rfl hdSX3_isVerdict ⟨Nat.le_of_ble_eq_true rfl, Nat.le_of_ble_eq_true rfl⟩) dX3_ranked_1 rfl rfl (Nat.le_of_ble_eq_true rfl) rfl rfl (by decide) (fun H locs hH => ?_)
  have hH : Hs D A s.heap (wMn cI cJ cQ ad yn ym yk yl yt yd yu ye yv yo y0 y1 yc yh) H locs := hH
  refine lv_if_eq (tgt := 14) hx hb dX3_ranked_4 (by decide) (fun hc => ?_) (fun hc => ?_)
  · have hf := wp_t hc hf
    refine lv_aload_n hx hb dX3_ranked_14 rfl (lv_at hl 0 rfl) ?_
    refine lv_bipush (v := (-2)) hx hb dX3_ranked_15 (by decide) ?_
    obtain ⟨x2, hcl, hf⟩ := wp_b hf
    refine k_Vi0 F hK hH hA hl.1 ⟨Nat.zero_le _, Nat.zero_le _⟩ [.int (-2)] [] (ctX3_refuse ad yn ym yk yl yt yd yu ye yv yo y0 y1 yc yh (-2) hcl) (cwV 1 hts gX3_ranked_X3_refuse rfl rfl rfl hdVX3_refuse ⟨Nat.le_of_ble_eq_true rfl, Nat.le_of_ble_eq_true rfl⟩) dX3_ranked_17 0 rfl rfl rfl rfl rfl (Nat.le_of_ble_eq_true rfl) rfl (fun H locs hH => ?_)
    have hH : Hs D A s.heap (wMn cI cJ cQ ad yn ym yk yl yt yd yu x2.2 yv yo y0 y1 yc yh) H locs := hH
    refine W.eq (g2 := F0 m 20 ls [.int x2.1]) rfl ?_
    have hrs := wp_s hf
    subst hrs
    exact RET H locs ls 20 dX3_ranked_20 rfl hH
  · have hf := wp_f hc hf
    refine lv_iload_n hx hb dX3_ranked_7 rfl (lv_at hl 2 rfl) ?_
    obtain ⟨x3, hcl, hf⟩ := wp_b hf
    refine k_Si F hK hH hA hl.1 ⟨Nat.zero_le _, Nat.zero_le _⟩ [] [.int v2] [] (ctX3_isEither v2 hcl) (va_cwS 1 hts gX3_ranked_X3_isEither rfl rfl rfl hdSX3_isEither ⟨Nat.le_of_ble_eq_true rfl, Nat.le_of_ble_eq_true rfl⟩) dX3_ranked_8 rfl rfl (Nat.le_of_ble_eq_true rfl) rfl rfl (by decide) (fun H locs hH => ?_)
    have hH : Hs D A s.heap (wMn cI cJ cQ ad yn ym yk yl yt yd yu ye yv yo y0 y1 yc yh) H locs := hH
    refine lv_if_ne (tgt := 21) hx hb dX3_ranked_11 (by decide) (fun hc => ?_) (fun hc => ?_)
    · have hf := wp_f hc hf
      refine lv_iconst (v := 0) hx hb dX3_ranked_21 (by decide) ?_
      refine lv_istore_n (lv' := [(3, .int 0), (0, .ref (ad 0)), (1, .int v1), (2, .int v2)]) hx hb dX3_ranked_22 rfl hl (by decide) rfl (fun ls hl => ?_)
      refine lv_iconst (v := (-1)) hx hb dX3_ranked_23 (by decide) ?_
      refine lv_istore (lv' := [(4, .int (-1)), (3, .int 0), (0, .ref (ad 0)), (1, .int v1), (2, .int v2)]) hx hb dX3_ranked_24 hl (by decide) rfl (fun ls hl => ?_)
      refine lv_iconst (v := 0) hx hb dX3_ranked_26 (by decide) ?_
      refine lv_istore (lv' := [(5, .int 0), (4, .int (-1)), (3, .int 0), (0, .ref (ad 0)), (1, .int v1), (2, .int v2)]) hx hb dX3_ranked_27 hl (by decide) rfl (fun ls hl => ?_)
      have LP : ∀ (Φ : (Int32 × Int32 × LandT) → Prop), (∀ (t8 : Int32) (t9 : Int32) (t10 : LandT) (H : Heap) (locs : List Loc) (ls : Array Slot), Φ ((t8, t9, t10)) → Hs D A s.heap (wMn cI cJ cQ ad yn t10 yk yl yt yd yu ye yv yo y0 y1 yc yh) H locs → lv_has ls 8 [(2, .int v2), (3, .int t8), (4, .int t9)] → W p l e rmX3_ranked s m args below meth c H locs 0 0 Q (F0 m 83 ls [])) → ∀ (n : Nat) (t4 : Int32) (t5 : Int32) (t6 : Int32) (t7 : LandT) (H : Heap) (locs : List Loc) (ls : Array Slot), wpO (lp (bX3_ranked_29 v1 yn) n (t4, t5, t6, t7)) Φ → Hs D A s.heap (wMn cI cJ cQ ad yn t7 yk yl yt yd yu ye yv yo y0 y1 yc yh) H locs → lv_has ls 8 [(0, .ref (ad 0)), (1, .int v1), (2, .int v2), (3, .int t4), (4, .int t5), (5, .int t6)] → W p l e rmX3_ranked s m args below meth c H locs 0 0 Q (F0 m 29 ls []) := by
        intro Φ EX n
        induction n with
        | zero =>
          intro t4 t5 t6 t7 H locs ls hf hH hl
          exact (wp_l0 hf).elim
        | succ n ih =>
          intro t4 t5 t6 t7 H locs ls hf hH hl
          have hf := wp_l hf
          refine lv_iload hx hb dX3_ranked_29 (lv_at hl 5 rfl) ?_
          refine lv_bipush (v := 6) hx hb dX3_ranked_31 (by decide) ?_
          refine lv_icmp_ge (tgt := 83) hx hb dX3_ranked_33 (by decide) (fun hc => ?_) (fun hc => ?_)
          · have hf := wp_t hc hf
            have hw := wp_out hf
            exact EX _ _ _ _ _ _ hw hH (lv_sub hl [2, 3, 4] rfl)
          · have hf := wp_f hc hf
            refine lv_aload_n hx hb dX3_ranked_36 rfl (lv_at hl 0 rfl) ?_
            obtain ⟨x11, hcl, hf⟩ := wp_b hf
            refine k_Vr0 F hK hH hA hl.1 ⟨Nat.zero_le _, Nat.zero_le _⟩ [] [] (ctX3_inMind ad yn t7 yk yl yt yd yu ye yv yo y0 y1 yc yh hcl) (cwV 0 hts gX3_ranked_X3_inMind rfl rfl rfl hdVX3_inMind ⟨Nat.le_of_ble_eq_true rfl, Nat.le_of_ble_eq_true rfl⟩) dX3_ranked_37 0 rfl rfl rfl rfl rfl (Nat.le_of_ble_eq_true rfl) rfl (fun H locs hH => ?_)
            have hH : Hs D A s.heap (wMn cI cJ cQ ad yn x11 yk yl yt yd yu ye yv yo y0 y1 yc yh) H locs := hH
            refine W.eq (g2 := F0 m 40 ls [.ref (ad 9)]) rfl ?_
            refine lv_astore (lv' := [(6, .ref (ad 9)), (0, .ref (ad 0)), (1, .int v1), (2, .int v2), (3, .int t4), (4, .int t5), (5, .int t6)]) hx hb dX3_ranked_40 hl (by decide) rfl (fun ls hl => ?_)
            refine lv_aload hx hb dX3_ranked_42 (lv_at hl 0 rfl) ?_
            refine k_get (v := .ref (ad 16)) F hK hH 9 inX3_ranked_X0 6 mbX3_ranked_f130 dX3_ranked_44 rfl rfl (by decide) rfl ?_
            refine lv_iload hx hb dX3_ranked_47 (lv_at hl 6 rfl) ?_
            refine lv_bipush (v := 10) hx hb dX3_ranked_49 (by decide) ?_
            obtain ⟨hi, hf⟩ := wp_n hf
            refine k_iast (f := gQ x11) (n := 6) F hK hH 16 dX3_ranked_51 hi rfl (fun H locs hH => ?_)
            have hH : Hs D A s.heap (wMn cI cJ cQ ad yn (gH x11, gR x11, gK x11, gF x11, gP x11, gV x11, upd (gQ x11) (Int32.toNatClampNeg t6) 10, gN x11, gD x11, gE x11, gT x11) yk yl yt yd yu ye yv yo y0 y1 yc yh) H locs := hH
            refine lv_aload hx hb dX3_ranked_52 (lv_at hl 0 rfl) ?_
            refine lv_iload_n hx hb dX3_ranked_54 rfl (lv_at hl 2 rfl) ?_
            obtain ⟨x12, hcl, hf⟩ := wp_b hf
            refine k_Vi F hK hH hA hl.1 ⟨Nat.zero_le _, Nat.zero_le _⟩ [9, 10, 11, 12, 13, 14, 15, 16] [.int v1] [] (ctX0_branchesWith (fun k => ad (9 + k)) (gH x11, gR x11, gK x11, gF x11, gP x11, gV x11, upd (gQ x11) (Int32.toNatClampNeg t6) 10, gN x11, gD x11, gE x11, gT x11) v1 hcl) (cwV 1 hts gX3_ranked_X0_branchesWith rfl rfl rfl hdVX0_branchesWith ⟨Nat.le_of_ble_eq_true rfl, Nat.le_of_ble_eq_true rfl⟩) dX3_ranked_55 9 rfl rfl rfl rfl rfl (Nat.le_of_ble_eq_true rfl) rfl rfl (by decide) (fun H locs hH => ?_)
            have hH : Hs D A s.heap (wMn cI cJ cQ ad yn (gH x11, gR x11, gK x11, gF x11, gP x11, gV x11, upd (gQ x11) (Int32.toNatClampNeg t6) 10, gN x11, gD x11, gE x11, gT x11) yk yl yt yd yu ye yv yo y0 y1 yc yh) H locs := hH
            obtain ⟨x13, hcl, hf⟩ := wp_b hf
            refine k_Si F hK hH hA hl.1 ⟨Nat.zero_le _, Nat.zero_le _⟩ [] [.int x12] [] (ctJ6_bitCount_0f7a4 x12 hcl) (va_cwS 1 hts gX3_ranked_J6_bitCount_0f7a4 rfl rfl rfl hdSJ6_bitCount_0f7a4 ⟨Nat.le_of_ble_eq_true rfl, Nat.le_of_ble_eq_true rfl⟩) dX3_ranked_58 rfl rfl (Nat.le_of_ble_eq_true rfl) rfl rfl (by decide) (fun H locs hH => ?_)
            have hH : Hs D A s.heap (wMn cI cJ cQ ad yn (gH x11, gR x11, gK x11, gF x11, gP x11, gV x11, upd (gQ x11) (Int32.toNatClampNeg t6) 10, gN x11, gD x11, gE x11, gT x11) yk yl yt yd yu ye yv yo y0 y1 yc yh) H locs := hH
            refine lv_istore (lv' := [(7, .int x13), (6, .ref (ad 9)), (0, .ref (ad 0)), (1, .int v1), (2, .int v2), (3, .int t4), (4, .int t5), (5, .int t6)]) hx hb dX3_ranked_61 hl (by decide) rfl (fun ls hl => ?_)
            refine lv_iload hx hb dX3_ranked_63 (lv_at hl 0 rfl) ?_
            refine lv_iload hx hb dX3_ranked_65 (lv_at hl 6 rfl) ?_
            refine lv_icmp_le (tgt := 77) hx hb dX3_ranked_67 (by decide) (fun hc => ?_) (fun hc => ?_)
            · have hf := wp_t hc hf
              refine lv_iinc (v := t6 + 1) (lv' := [(5, .int (t6 + 1)), (7, .int x13), (6, .ref (ad 9)), (0, .ref (ad 0)), (1, .int v1), (2, .int v2), (3, .int t4), (4, .int t5)]) hx hb dX3_ranked_77 hl (k := 7) rfl rfl (by decide) rfl (fun ls hl => ?_)
              refine lv_goto (tgt := 29) hx hb dX3_ranked_80 (by decide) ?_
              have hw := wp_in hf
              exact ih _ _ _ _ _ _ _ hw hH (lv_sub hl [3, 4, 5, 6, 7, 0] rfl)
            · have hf := wp_f hc hf
              refine lv_iload hx hb dX3_ranked_70 (lv_at hl 0 rfl) ?_
              refine lv_istore (lv' := [(4, .int x13), (7, .int x13), (6, .ref (ad 9)), (0, .ref (ad 0)), (1, .int v1), (2, .int v2), (3, .int t4), (5, .int t6)]) hx hb dX3_ranked_72 hl (by decide) rfl (fun ls hl => ?_)
              refine lv_iload hx hb dX3_ranked_74 (lv_at hl 7 rfl) ?_
              refine lv_istore_n (lv' := [(3, .int t6), (4, .int x13), (7, .int x13), (6, .ref (ad 9)), (0, .ref (ad 0)), (1, .int v1), (2, .int v2), (5, .int t6)]) hx hb dX3_ranked_76 rfl hl (by decide) rfl (fun ls hl => ?_)
              refine lv_iinc (v := t6 + 1) (lv' := [(5, .int (t6 + 1)), (3, .int t6), (4, .int x13), (7, .int x13), (6, .ref (ad 9)), (0, .ref (ad 0)), (1, .int v1), (2, .int v2)]) hx hb dX3_ranked_77 hl (k := 7) rfl rfl (by decide) rfl (fun ls hl => ?_)
              refine lv_goto (tgt := 29) hx hb dX3_ranked_80 (by decide) ?_
              have hw := wp_in hf
              exact ih _ _ _ _ _ _ _ hw hH (lv_sub hl [5, 6, 7, 1, 2, 0] rfl)
      refine LP _ (fun t8 t9 t10 H locs ls hf hH hl => ?_) fu _ _ _ _ _ _ _ (wp_bb hf) hH (lv_sub hl [3, 4, 5, 2, 1, 0] rfl)
      refine lv_iload_n hx hb dX3_ranked_83 rfl (lv_at hl 0 rfl) ?_
      refine lv_if_ne (tgt := 91) hx hb dX3_ranked_84 (by decide) (fun hc => ?_) (fun hc => ?_)
      · have hf := wp_f hc hf
        refine lv_iload hx hb dX3_ranked_91 (lv_at hl 2 rfl) ?_
        have hrs := wp_s hf
        subst hrs
        exact RET H locs ls 93 dX3_ranked_93 rfl hH
      · have hf := wp_t hc hf
        refine lv_iload_n hx hb dX3_ranked_87 rfl (lv_at hl 1 rfl) ?_
        refine lv_goto (tgt := 93) hx hb dX3_ranked_88 (by decide) ?_
        have hrs := wp_s hf
        subst hrs
        exact RET H locs ls 93 dX3_ranked_93 rfl hH
    · have hf := wp_t hc hf
      refine lv_aload_n hx hb dX3_ranked_14 rfl (lv_at hl 0 rfl) ?_
      refine lv_bipush (v := (-2)) hx hb dX3_ranked_15 (by decide) ?_
      obtain ⟨x14, hcl, hf⟩ := wp_b hf
      refine k_Vi0 F hK hH hA hl.1 ⟨Nat.zero_le _, Nat.zero_le _⟩ [.int (-2)] [] (ctX3_refuse ad yn ym yk yl yt yd yu ye yv yo y0 y1 yc yh (-2) hcl) (cwV 1 hts gX3_ranked_X3_refuse rfl rfl rfl hdVX3_refuse ⟨Nat.le_of_ble_eq_true rfl, Nat.le_of_ble_eq_true rfl⟩) dX3_ranked_17 0 rfl rfl rfl rfl rfl (Nat.le_of_ble_eq_true rfl) rfl (fun H locs hH => ?_)
      have hH : Hs D A s.heap (wMn cI cJ cQ ad yn ym yk yl yt yd yu x14.2 yv yo y0 y1 yc yh) H locs := hH
      refine W.eq (g2 := F0 m 20 ls [.int x14.1]) rfl ?_
      have hrs := wp_s hf
      subst hrs
      exact RET H locs ls 20 dX3_ranked_20 rfl hH

def bX3_longestRun_14 (yn : LandT) : (Int32 × Int32 × Int32 × Int32 × Int32) → Option ((Int32 × Int32 × Int32 × Int32 × Int32) ⊕ (Int32 × Int32)) := fun ((t1, t2, t3, t4, t5) : Int32 × Int32 × Int32 × Int32 × Int32) =>
  if (10 : Int32) ≤ t5 then
    some (.inr (t1, t2))
  else
    Option.bind (fX0_verdictFrom t5 yn) fun x8 =>
    Option.bind (if x8 = t4 then
        some (t3 + 1)
      else
        some 1) fun (t9 : Int32) =>
    if t9 ≤ t1 then
      some (.inl (t1, t2, t9, x8, t5 + 1))
    else
      some (.inl (t9, (t5 - t9) + 1, t9, x8, t5 + 1))

def fX3_longestRun (v1 : Int32) (yn : LandT) : Option (Int32) :=
  Option.bind (lp (bX3_longestRun_14 yn) fu (0, 0, 0, (-9), 0)) fun ((t6, t7) : Int32 × Int32) =>
  if v1 = 0 then
    some t6
  else
    some t7

def rmX3_longestRun : Room := { frames := 5, cells := 0, slots := 0, locals := 110 }
theorem mbX3_longestRun_f10 : Cond.fieldLink RX3 10 (TX3 0).1 (TX3 0).2.1 (TX3 0).2.2.1 ∈ wsX3_longestRun := by decide +kernel
theorem inX3_longestRun_X3 : ∀ w ∈ wsX30, w ∈ wsX3_longestRun := by decide +kernel
theorem hdVX3_longestRun : yX3_longestRun.cls = RX3 ∧ yX3_longestRun.cls ≠ "java/lang/invoke/MethodHandle" ∧ yX3_longestRun.cls ≠ "java/lang/invoke/VarHandle" ∧ (parseMethodDescriptor yX3_longestRun.desc).map (fun d => d.parameters.length) = some 1 := by decide +kernel
set_option maxHeartbeats 4000000 in
set_option maxRecDepth 100000 in
theorem ctX3_longestRun {l : Launch} {D : va_G} {cI cJ cQ : ClassId} (ad : Nat → Nat) (yn : LandT) (ym : LandT) (yk : LandT) (yl : (Nat → Int32)) (yt : Int32) (yd : Int32) (yu : (Nat → Int32)) (ye : (Nat → Int32)) (yv : (Nat → Int32)) (yo : (Nat → Int64)) (y0 : (Nat → Int32)) (y1 : (Nat → Int32)) (yc : Int32) (yh : Int32) (v1 : Int32) {res : Int32} (h : fX3_longestRun v1 yn = some res) : CtI l D cI cJ cQ yX3_longestRun wsX3_longestRun rmX3_longestRun [.ref (ad 0), .int v1] (wMn cI cJ cQ ad yn ym yk yl yt yd yu ye yv yo y0 y1 yc yh) res (wMn cI cJ cQ ad yn ym yk yl yt yd yu ye yv yo y0 y1 yc yh) := by
  refine ctI_of .int (cc := cX3_longestRun) (maxL := 8) (by decide) rfl (Nat.le_of_ble_eq_true rfl) ?_
  intro p e s m args below meth c A Q ls F hK hA RET hH hl
  obtain ⟨hx, hb, hml, hown, hts⟩ := id F
  have hl : lv_has ls 8 [(0, .ref (ad 0)), (1, .int v1)] := hl
  have hf : wpO (fX3_longestRun v1 yn) (fun v => v = res) := ⟨_, h, rfl⟩
  obtain ⟨H, eH⟩ : ∃ H, H = s.heap := ⟨_, rfl⟩
  obtain ⟨locs, eL⟩ : ∃ locs : List Loc, locs = [] := ⟨_, rfl⟩
  have hH : Hs D A s.heap (wMn cI cJ cQ ad yn ym yk yl yt yd yu ye yv yo y0 y1 yc yh) H locs := by rw [eH, eL]; exact hH
  rw [← eL]
  suffices hgo : W p l e rmX3_longestRun s m args below meth c H locs 0 0 Q (F0 m 0 ls []) by rw [eH] at hgo; exact hgo
  clear eH eL
  refine lv_iconst (v := 0) hx hb dX3_longestRun_0 (by decide) ?_
  refine lv_istore_n (lv' := [(2, .int 0), (0, .ref (ad 0)), (1, .int v1)]) hx hb dX3_longestRun_1 rfl hl (by decide) rfl (fun ls hl => ?_)
  refine lv_iconst (v := 0) hx hb dX3_longestRun_2 (by decide) ?_
  refine lv_istore_n (lv' := [(3, .int 0), (2, .int 0), (0, .ref (ad 0)), (1, .int v1)]) hx hb dX3_longestRun_3 rfl hl (by decide) rfl (fun ls hl => ?_)
  refine lv_iconst (v := 0) hx hb dX3_longestRun_4 (by decide) ?_
  refine lv_istore (lv' := [(4, .int 0), (3, .int 0), (2, .int 0), (0, .ref (ad 0)), (1, .int v1)]) hx hb dX3_longestRun_5 hl (by decide) rfl (fun ls hl => ?_)
  refine lv_bipush (v := (-9)) hx hb dX3_longestRun_7 (by decide) ?_
  refine lv_istore (lv' := [(5, .int (-9)), (4, .int 0), (3, .int 0), (2, .int 0), (0, .ref (ad 0)), (1, .int v1)]) hx hb dX3_longestRun_9 hl (by decide) rfl (fun ls hl => ?_)
  refine lv_iconst (v := 0) hx hb dX3_longestRun_11 (by decide) ?_
  refine lv_istore (lv' := [(6, .int 0), (5, .int (-9)), (4, .int 0), (3, .int 0), (2, .int 0), (0, .ref (ad 0)), (1, .int v1)]) hx hb dX3_longestRun_12 hl (by decide) rfl (fun ls hl => ?_)
  have LP : ∀ (Φ : (Int32 × Int32) → Prop), (∀ (t6 : Int32) (t7 : Int32) (H : Heap) (locs : List Loc) (ls : Array Slot), Φ ((t6, t7)) → Hs D A s.heap (wMn cI cJ cQ ad yn ym yk yl yt yd yu ye yv yo y0 y1 yc yh) H locs → lv_has ls 8 [(1, .int v1), (2, .int t6), (3, .int t7)] → W p l e rmX3_longestRun s m args below meth c H locs 0 0 Q (F0 m 76 ls [])) → ∀ (n : Nat) (t1 : Int32) (t2 : Int32) (t3 : Int32) (t4 : Int32) (t5 : Int32) (H : Heap) (locs : List Loc) (ls : Array Slot), wpO (lp (bX3_longestRun_14 yn) n (t1, t2, t3, t4, t5)) Φ → Hs D A s.heap (wMn cI cJ cQ ad yn ym yk yl yt yd yu ye yv yo y0 y1 yc yh) H locs → lv_has ls 8 [(0, .ref (ad 0)), (1, .int v1), (2, .int t1), (3, .int t2), (4, .int t3), (5, .int t4), (6, .int t5)] → W p l e rmX3_longestRun s m args below meth c H locs 0 0 Q (F0 m 14 ls []) := by
    intro Φ EX n
    induction n with
    | zero =>
      intro t1 t2 t3 t4 t5 H locs ls hf hH hl
      exact (wp_l0 hf).elim
    | succ n ih =>
      intro t1 t2 t3 t4 t5 H locs ls hf hH hl
      have hf := wp_l hf
      refine lv_iload hx hb dX3_longestRun_14 (lv_at hl 6 rfl) ?_
      refine lv_bipush (v := 10) hx hb dX3_longestRun_16 (by decide) ?_
      refine lv_icmp_ge (tgt := 76) hx hb dX3_longestRun_18 (by decide) (fun hc => ?_) (fun hc => ?_)
      · have hf := wp_t hc hf
        have hw := wp_out hf
        exact EX _ _ _ _ _ hw hH (lv_sub hl [1, 2, 3] rfl)
      · have hf := wp_f hc hf
        refine lv_aload_n hx hb dX3_longestRun_21 rfl (lv_at hl 0 rfl) ?_
        refine k_get (v := .ref (ad 1)) F hK hH 0 inX3_longestRun_X3 0 mbX3_longestRun_f10 dX3_longestRun_22 rfl rfl (by decide) rfl ?_
        refine lv_iload hx hb dX3_longestRun_25 (lv_at hl 6 rfl) ?_
        obtain ⟨x8, hcl, hf⟩ := wp_b hf
        refine k_Vi F hK hH hA hl.1 ⟨Nat.zero_le _, Nat.zero_le _⟩ [1, 2, 3, 4, 5, 6, 7, 8] [.int t5] [] (ctX0_verdictFrom (fun k => ad (1 + k)) yn t5 hcl) (cwV 1 hts gX3_longestRun_X0_verdictFrom rfl rfl rfl hdVX0_verdictFrom ⟨Nat.le_of_ble_eq_true rfl, Nat.le_of_ble_eq_true rfl⟩) dX3_longestRun_27 1 rfl rfl rfl rfl rfl (Nat.le_of_ble_eq_true rfl) rfl rfl (by decide) (fun H locs hH => ?_)
        have hH : Hs D A s.heap (wMn cI cJ cQ ad yn ym yk yl yt yd yu ye yv yo y0 y1 yc yh) H locs := hH
        refine lv_istore (lv' := [(7, .int x8), (0, .ref (ad 0)), (1, .int v1), (2, .int t1), (3, .int t2), (4, .int t3), (5, .int t4), (6, .int t5)]) hx hb dX3_longestRun_30 hl (by decide) rfl (fun ls hl => ?_)
        refine lv_iload hx hb dX3_longestRun_32 (lv_at hl 0 rfl) ?_
        refine lv_iload hx hb dX3_longestRun_34 (lv_at hl 6 rfl) ?_
        refine join_ (α := Int32) (fun Φ => ∀ (t9 : Int32) (H : Heap) (locs : List Loc) (ls : Array Slot), Φ t9 → Hs D A s.heap (wMn cI cJ cQ ad yn ym yk yl yt yd yu ye yv yo y0 y1 yc yh) H locs → lv_has ls 8 [(0, .ref (ad 0)), (1, .int v1), (2, .int t1), (3, .int t2), (6, .int t5), (7, .int x8)] → W p l e rmX3_longestRun s m args below meth c H locs 0 0 Q (F0 m 47 ls [.int t9])) (wp_bb hf) ?_ ?_
        · intro t9 H locs ls hf hH hl
          refine lv_istore (lv' := [(4, .int t9), (0, .ref (ad 0)), (1, .int v1), (2, .int t1), (3, .int t2), (6, .int t5), (7, .int x8)]) hx hb dX3_longestRun_47 hl (by decide) rfl (fun ls hl => ?_)
          refine lv_iload hx hb dX3_longestRun_49 (lv_at hl 6 rfl) ?_
          refine lv_istore (lv' := [(5, .int x8), (4, .int t9), (0, .ref (ad 0)), (1, .int v1), (2, .int t1), (3, .int t2), (6, .int t5), (7, .int x8)]) hx hb dX3_longestRun_51 hl (by decide) rfl (fun ls hl => ?_)
          refine lv_iload hx hb dX3_longestRun_53 (lv_at hl 1 rfl) ?_
          refine lv_iload_n hx hb dX3_longestRun_55 rfl (lv_at hl 4 rfl) ?_
          refine lv_icmp_le (tgt := 70) hx hb dX3_longestRun_56 (by decide) (fun hc => ?_) (fun hc => ?_)
          · have hf := wp_t hc hf
            refine lv_iinc (v := t5 + 1) (lv' := [(6, .int (t5 + 1)), (5, .int x8), (4, .int t9), (0, .ref (ad 0)), (1, .int v1), (2, .int t1), (3, .int t2), (7, .int x8)]) hx hb dX3_longestRun_70 hl (k := 6) rfl rfl (by decide) rfl (fun ls hl => ?_)
            refine lv_goto (tgt := 14) hx hb dX3_longestRun_73 (by decide) ?_
            have hw := wp_in hf
            exact ih _ _ _ _ _ _ _ _ hw hH (lv_sub hl [3, 4, 5, 6, 2, 1, 0] rfl)
          · have hf := wp_f hc hf
            refine lv_iload hx hb dX3_longestRun_59 (lv_at hl 1 rfl) ?_
            refine lv_istore_n (lv' := [(2, .int t9), (5, .int x8), (4, .int t9), (0, .ref (ad 0)), (1, .int v1), (3, .int t2), (6, .int t5), (7, .int x8)]) hx hb dX3_longestRun_61 rfl hl (by decide) rfl (fun ls hl => ?_)
            refine lv_iload hx hb dX3_longestRun_62 (lv_at hl 6 rfl) ?_
            refine lv_iload hx hb dX3_longestRun_64 (lv_at hl 2 rfl) ?_
            refine lv_isub hx hb dX3_longestRun_66 ?_
            refine lv_iconst (v := 1) hx hb dX3_longestRun_67 (by decide) ?_
            refine lv_iadd hx hb dX3_longestRun_68 ?_
            refine lv_istore_n (lv' := [(3, .int ((t5 - t9) + 1)), (2, .int t9), (5, .int x8), (4, .int t9), (0, .ref (ad 0)), (1, .int v1), (6, .int t5), (7, .int x8)]) hx hb dX3_longestRun_69 rfl hl (by decide) rfl (fun ls hl => ?_)
            refine lv_iinc (v := t5 + 1) (lv' := [(6, .int (t5 + 1)), (3, .int ((t5 - t9) + 1)), (2, .int t9), (5, .int x8), (4, .int t9), (0, .ref (ad 0)), (1, .int v1), (7, .int x8)]) hx hb dX3_longestRun_70 hl (k := 6) rfl rfl (by decide) rfl (fun ls hl => ?_)
            refine lv_goto (tgt := 14) hx hb dX3_longestRun_73 (by decide) ?_
            have hw := wp_in hf
            exact ih _ _ _ _ _ _ _ _ hw hH (lv_sub hl [5, 6, 2, 1, 4, 3, 0] rfl)
        · intro Φ JJ hf
          refine lv_icmp_ne (tgt := 46) hx hb dX3_longestRun_36 (by decide) (fun hc => ?_) (fun hc => ?_)
          · have hf := wp_f hc hf
            refine lv_iconst (v := 1) hx hb dX3_longestRun_46 (by decide) ?_
            have hw := wp_s hf
            exact JJ _ _ _ _ hw hH (lv_sub hl [1, 2, 3, 4, 7, 0] rfl)
          · have hf := wp_t hc hf
            refine lv_iload hx hb dX3_longestRun_39 (lv_at hl 5 rfl) ?_
            refine lv_iconst (v := 1) hx hb dX3_longestRun_41 (by decide) ?_
            refine lv_iadd hx hb dX3_longestRun_42 ?_
            refine lv_goto (tgt := 47) hx hb dX3_longestRun_43 (by decide) ?_
            have hw := wp_s hf
            exact JJ _ _ _ _ hw hH (lv_sub hl [1, 2, 3, 4, 7, 0] rfl)
  refine LP _ (fun t6 t7 H locs ls hf hH hl => ?_) fu _ _ _ _ _ _ _ _ (wp_bb hf) hH (lv_sub hl [5, 6, 4, 3, 2, 1, 0] rfl)
  refine lv_iload_n hx hb dX3_longestRun_76 rfl (lv_at hl 0 rfl) ?_
  refine lv_if_eq (tgt := 84) hx hb dX3_longestRun_77 (by decide) (fun hc => ?_) (fun hc => ?_)
  · have hf := wp_t hc hf
    refine lv_iload_n hx hb dX3_longestRun_84 rfl (lv_at hl 1 rfl) ?_
    have hrs := wp_s hf
    subst hrs
    exact RET H locs ls 85 dX3_longestRun_85 rfl hH
  · have hf := wp_f hc hf
    refine lv_iload_n hx hb dX3_longestRun_80 rfl (lv_at hl 2 rfl) ?_
    refine lv_goto (tgt := 85) hx hb dX3_longestRun_81 (by decide) ?_
    have hrs := wp_s hf
    subst hrs
    exact RET H locs ls 85 dX3_longestRun_85 rfl hH

