def fX3_window (v1 : Int32) (yn : LandT) (ye : (Nat → Int32)) : Option (Int32 × (Nat → Int32)) :=
  if v1 = 0 then
    Option.bind (if v1 = 1 then
        some 1
      else
        some 0) fun (t1 : Int32) =>
    Option.bind (fX3_longestRun t1 yn) fun x2 =>
    some (x2, ye)
  else
    if v1 = 1 then
      Option.bind (if v1 = 1 then
          some 1
        else
          some 0) fun (t3 : Int32) =>
      Option.bind (fX3_longestRun t3 yn) fun x4 =>
      some (x4, ye)
    else
      if v1 = 2 then
        Option.bind (fX0_highest yn) fun x5 =>
        some (x5, ye)
      else
        if v1 = 3 then
          Option.bind (fX0_twosInOneCell yn) fun x6 =>
          some (x6, ye)
        else
          if v1 = 4 then
            Option.bind (fX0_lost yn) fun x7 =>
            some (x7, ye)
          else
            Option.bind (fX3_refuse (-2) ye) fun x8 =>
            some (x8.1, x8.2)

def rmX3_window : Room := { frames := 6, cells := 0, slots := 0, locals := 137 }
theorem mbX3_window_f10 : Cond.fieldLink RX3 10 (TX3 0).1 (TX3 0).2.1 (TX3 0).2.2.1 ∈ wsX3_window := by decide +kernel
theorem inX3_window_X3 : ∀ w ∈ wsX30, w ∈ wsX3_window := by decide +kernel
theorem hdVX3_window : yX3_window.cls = RX3 ∧ yX3_window.cls ≠ "java/lang/invoke/MethodHandle" ∧ yX3_window.cls ≠ "java/lang/invoke/VarHandle" ∧ (parseMethodDescriptor yX3_window.desc).map (fun d => d.parameters.length) = some 1 := by decide +kernel
set_option maxHeartbeats 4000000 in
set_option maxRecDepth 100000 in
theorem ctX3_window {l : Launch} {D : va_G} {cI cJ cQ : ClassId} (ad : Nat → Nat) (yn : LandT) (ym : LandT) (yk : LandT) (yl : (Nat → Int32)) (yt : Int32) (yd : Int32) (yu : (Nat → Int32)) (ye : (Nat → Int32)) (yv : (Nat → Int32)) (yo : (Nat → Int64)) (y0 : (Nat → Int32)) (y1 : (Nat → Int32)) (yc : Int32) (yh : Int32) (v1 : Int32) {res : Int32 × (Nat → Int32)} (h : fX3_window v1 yn ye = some res) : CtI l D cI cJ cQ yX3_window wsX3_window rmX3_window [.ref (ad 0), .int v1] (wMn cI cJ cQ ad yn ym yk yl yt yd yu ye yv yo y0 y1 yc yh) res.1 (wMn cI cJ cQ ad yn ym yk yl yt yd yu res.2 yv yo y0 y1 yc yh) := by
  refine ctI_of .int (cc := cX3_window) (maxL := 2) (by decide) rfl (Nat.le_of_ble_eq_true rfl) ?_
  intro p e s m args below meth c A Q ls F hK hA RET hH hl
  obtain ⟨hx, hb, hml, hown, hts⟩ := id F
  have hl : lv_has ls 2 [(0, .ref (ad 0)), (1, .int v1)] := hl
  have hf : wpO (fX3_window v1 yn ye) (fun v => v = res) := ⟨_, h, rfl⟩
  obtain ⟨H, eH⟩ : ∃ H, H = s.heap := ⟨_, rfl⟩
  obtain ⟨locs, eL⟩ : ∃ locs : List Loc, locs = [] := ⟨_, rfl⟩
  have hH : Hs D A s.heap (wMn cI cJ cQ ad yn ym yk yl yt yd yu ye yv yo y0 y1 yc yh) H locs := by rw [eH, eL]; exact hH
  rw [← eL]
  suffices hgo : W p l e rmX3_window s m args below meth c H locs 0 0 Q (F0 m 0 ls []) by rw [eH] at hgo; exact hgo
  clear eH eL
  refine lv_iload_n hx hb dX3_window_0 rfl (lv_at hl 1 rfl) ?_
  by_cases hc0 : v1 = 0
  · have hf := wp_t hc0 hf
    refine lv_tableIn (tgt := 36) hx hb dX3_window_1 (by rw [hc0]; decide) (by rw [hc0]; decide) (by rw [hc0]; try rfl) (by decide) ?_
    refine lv_aload_n hx hb dX3_window_36 rfl (lv_at hl 0 rfl) ?_
    refine lv_iload_n hx hb dX3_window_37 rfl (lv_at hl 1 rfl) ?_
    refine lv_iconst (v := 1) hx hb dX3_window_38 (by decide) ?_
    refine join_ (α := Int32) (fun Φ => ∀ (t1 : Int32) (H : Heap) (locs : List Loc) (ls : Array Slot), Φ t1 → Hs D A s.heap (wMn cI cJ cQ ad yn ym yk yl yt yd yu ye yv yo y0 y1 yc yh) H locs → lv_has ls 2 [] → W p l e rmX3_window s m args below meth c H locs 0 0 Q (F0 m 47 ls [.int t1, .ref (ad 0)])) (wp_bb hf) ?_ ?_
    · intro t1 H locs ls hf hH hl
      obtain ⟨x2, hcl, hf⟩ := wp_b hf
      refine k_Vi0 F hK hH hA hl.1 ⟨Nat.zero_le _, Nat.zero_le _⟩ [.int t1] [] (ctX3_longestRun ad yn ym yk yl yt yd yu ye yv yo y0 y1 yc yh t1 hcl) (cwV 1 hts gX3_window_X3_longestRun rfl rfl rfl hdVX3_longestRun ⟨Nat.le_of_ble_eq_true rfl, Nat.le_of_ble_eq_true rfl⟩) dX3_window_47 0 rfl rfl rfl rfl rfl (Nat.le_of_ble_eq_true rfl) rfl (fun H locs hH => ?_)
      have hH : Hs D A s.heap (wMn cI cJ cQ ad yn ym yk yl yt yd yu ye yv yo y0 y1 yc yh) H locs := hH
      have hrs := wp_s hf
      subst hrs
      exact RET H locs ls 50 dX3_window_50 rfl hH
    · intro Φ JJ hf
      refine lv_icmp_ne (tgt := 46) hx hb dX3_window_39 (by decide) (fun hc => ?_) (fun hc => ?_)
      · have hf := wp_f hc hf
        refine lv_iconst (v := 0) hx hb dX3_window_46 (by decide) ?_
        have hw := wp_s hf
        exact JJ _ _ _ _ hw hH (lv_sub hl [] rfl)
      · have hf := wp_t hc hf
        refine lv_iconst (v := 1) hx hb dX3_window_42 (by decide) ?_
        refine lv_goto (tgt := 47) hx hb dX3_window_43 (by decide) ?_
        have hw := wp_s hf
        exact JJ _ _ _ _ hw hH (lv_sub hl [] rfl)
  · have hf := wp_f hc0 hf
    by_cases hc1 : v1 = 1
    · have hf := wp_t hc1 hf
      refine lv_tableIn (tgt := 36) hx hb dX3_window_1 (by rw [hc1]; decide) (by rw [hc1]; decide) (by rw [hc1]; try rfl) (by decide) ?_
      refine lv_aload_n hx hb dX3_window_36 rfl (lv_at hl 0 rfl) ?_
      refine lv_iload_n hx hb dX3_window_37 rfl (lv_at hl 1 rfl) ?_
      refine lv_iconst (v := 1) hx hb dX3_window_38 (by decide) ?_
      refine join_ (α := Int32) (fun Φ => ∀ (t3 : Int32) (H : Heap) (locs : List Loc) (ls : Array Slot), Φ t3 → Hs D A s.heap (wMn cI cJ cQ ad yn ym yk yl yt yd yu ye yv yo y0 y1 yc yh) H locs → lv_has ls 2 [] → W p l e rmX3_window s m args below meth c H locs 0 0 Q (F0 m 47 ls [.int t3, .ref (ad 0)])) (wp_bb hf) ?_ ?_
      · intro t3 H locs ls hf hH hl
        obtain ⟨x4, hcl, hf⟩ := wp_b hf
        refine k_Vi0 F hK hH hA hl.1 ⟨Nat.zero_le _, Nat.zero_le _⟩ [.int t3] [] (ctX3_longestRun ad yn ym yk yl yt yd yu ye yv yo y0 y1 yc yh t3 hcl) (cwV 1 hts gX3_window_X3_longestRun rfl rfl rfl hdVX3_longestRun ⟨Nat.le_of_ble_eq_true rfl, Nat.le_of_ble_eq_true rfl⟩) dX3_window_47 0 rfl rfl rfl rfl rfl (Nat.le_of_ble_eq_true rfl) rfl (fun H locs hH => ?_)
        have hH : Hs D A s.heap (wMn cI cJ cQ ad yn ym yk yl yt yd yu ye yv yo y0 y1 yc yh) H locs := hH
        have hrs := wp_s hf
        subst hrs
        exact RET H locs ls 50 dX3_window_50 rfl hH
      · intro Φ JJ hf
        refine lv_icmp_ne (tgt := 46) hx hb dX3_window_39 (by decide) (fun hc => ?_) (fun hc => ?_)
        · have hf := wp_f hc hf
          refine lv_iconst (v := 0) hx hb dX3_window_46 (by decide) ?_
          have hw := wp_s hf
          exact JJ _ _ _ _ hw hH (lv_sub hl [] rfl)
        · have hf := wp_t hc hf
          refine lv_iconst (v := 1) hx hb dX3_window_42 (by decide) ?_
          refine lv_goto (tgt := 47) hx hb dX3_window_43 (by decide) ?_
          have hw := wp_s hf
          exact JJ _ _ _ _ hw hH (lv_sub hl [] rfl)
    · have hf := wp_f hc1 hf
      by_cases hc2 : v1 = 2
      · have hf := wp_t hc2 hf
        refine lv_tableIn (tgt := 51) hx hb dX3_window_1 (by rw [hc2]; decide) (by rw [hc2]; decide) (by rw [hc2]; try rfl) (by decide) ?_
        refine lv_aload_n hx hb dX3_window_51 rfl (lv_at hl 0 rfl) ?_
        refine k_get (v := .ref (ad 1)) F hK hH 0 inX3_window_X3 0 mbX3_window_f10 dX3_window_52 rfl rfl (by decide) rfl ?_
        obtain ⟨x5, hcl, hf⟩ := wp_b hf
        refine k_Vi F hK hH hA hl.1 ⟨Nat.zero_le _, Nat.zero_le _⟩ [1, 2, 3, 4, 5, 6, 7, 8] [] [] (ctX0_highest (fun k => ad (1 + k)) yn hcl) (cwV 0 hts gX3_window_X0_highest rfl rfl rfl hdVX0_highest ⟨Nat.le_of_ble_eq_true rfl, Nat.le_of_ble_eq_true rfl⟩) dX3_window_55 1 rfl rfl rfl rfl rfl (Nat.le_of_ble_eq_true rfl) rfl rfl (by decide) (fun H locs hH => ?_)
        have hH : Hs D A s.heap (wMn cI cJ cQ ad yn ym yk yl yt yd yu ye yv yo y0 y1 yc yh) H locs := hH
        have hrs := wp_s hf
        subst hrs
        exact RET H locs ls 58 dX3_window_58 rfl hH
      · have hf := wp_f hc2 hf
        by_cases hc3 : v1 = 3
        · have hf := wp_t hc3 hf
          refine lv_tableIn (tgt := 59) hx hb dX3_window_1 (by rw [hc3]; decide) (by rw [hc3]; decide) (by rw [hc3]; try rfl) (by decide) ?_
          refine lv_aload_n hx hb dX3_window_59 rfl (lv_at hl 0 rfl) ?_
          refine k_get (v := .ref (ad 1)) F hK hH 0 inX3_window_X3 0 mbX3_window_f10 dX3_window_60 rfl rfl (by decide) rfl ?_
          obtain ⟨x6, hcl, hf⟩ := wp_b hf
          refine k_Vi F hK hH hA hl.1 ⟨Nat.zero_le _, Nat.zero_le _⟩ [1, 2, 3, 4, 5, 6, 7, 8] [] [] (ctX0_twosInOneCell (fun k => ad (1 + k)) yn hcl) (cwV 0 hts gX3_window_X0_twosInOneCell rfl rfl rfl hdVX0_twosInOneCell ⟨Nat.le_of_ble_eq_true rfl, Nat.le_of_ble_eq_true rfl⟩) dX3_window_63 1 rfl rfl rfl rfl rfl (Nat.le_of_ble_eq_true rfl) rfl rfl (by decide) (fun H locs hH => ?_)
          have hH : Hs D A s.heap (wMn cI cJ cQ ad yn ym yk yl yt yd yu ye yv yo y0 y1 yc yh) H locs := hH
          have hrs := wp_s hf
          subst hrs
          exact RET H locs ls 66 dX3_window_66 rfl hH
        · have hf := wp_f hc3 hf
          by_cases hc4 : v1 = 4
          · have hf := wp_t hc4 hf
            refine lv_tableIn (tgt := 67) hx hb dX3_window_1 (by rw [hc4]; decide) (by rw [hc4]; decide) (by rw [hc4]; try rfl) (by decide) ?_
            refine lv_aload_n hx hb dX3_window_67 rfl (lv_at hl 0 rfl) ?_
            refine k_get (v := .ref (ad 1)) F hK hH 0 inX3_window_X3 0 mbX3_window_f10 dX3_window_68 rfl rfl (by decide) rfl ?_
            obtain ⟨x7, hcl, hf⟩ := wp_b hf
            refine k_Vi F hK hH hA hl.1 ⟨Nat.zero_le _, Nat.zero_le _⟩ [1, 2, 3, 4, 5, 6, 7, 8] [] [] (ctX0_lost (fun k => ad (1 + k)) yn hcl) (cwV 0 hts gX3_window_X0_lost rfl rfl rfl hdVX0_lost ⟨Nat.le_of_ble_eq_true rfl, Nat.le_of_ble_eq_true rfl⟩) dX3_window_71 1 rfl rfl rfl rfl rfl (Nat.le_of_ble_eq_true rfl) rfl rfl (by decide) (fun H locs hH => ?_)
            have hH : Hs D A s.heap (wMn cI cJ cQ ad yn ym yk yl yt yd yu ye yv yo y0 y1 yc yh) H locs := hH
            have hrs := wp_s hf
            subst hrs
            exact RET H locs ls 74 dX3_window_74 rfl hH
          · have hf := wp_f hc4 hf
            have hs0 := sw_ne hc0 (show (0 : Int32).toInt = 0 from rfl)
            have hs1 := sw_ne hc1 (show (1 : Int32).toInt = 1 from rfl)
            have hs2 := sw_ne hc2 (show (2 : Int32).toInt = 2 from rfl)
            have hs3 := sw_ne hc3 (show (3 : Int32).toInt = 3 from rfl)
            have hs4 := sw_ne hc4 (show (4 : Int32).toInt = 4 from rfl)
            refine lv_tableOut (tgt := 75) hx hb dX3_window_1 (by omega) (by decide) ?_
            refine lv_aload_n hx hb dX3_window_75 rfl (lv_at hl 0 rfl) ?_
            refine lv_bipush (v := (-2)) hx hb dX3_window_76 (by decide) ?_
            obtain ⟨x8, hcl, hf⟩ := wp_b hf
            refine k_Vi0 F hK hH hA hl.1 ⟨Nat.zero_le _, Nat.zero_le _⟩ [.int (-2)] [] (ctX3_refuse ad yn ym yk yl yt yd yu ye yv yo y0 y1 yc yh (-2) hcl) (cwV 1 hts gX3_window_X3_refuse rfl rfl rfl hdVX3_refuse ⟨Nat.le_of_ble_eq_true rfl, Nat.le_of_ble_eq_true rfl⟩) dX3_window_78 0 rfl rfl rfl rfl rfl (Nat.le_of_ble_eq_true rfl) rfl (fun H locs hH => ?_)
            have hH : Hs D A s.heap (wMn cI cJ cQ ad yn ym yk yl yt yd yu x8.2 yv yo y0 y1 yc yh) H locs := hH
            refine W.eq (g2 := F0 m 81 ls [.int x8.1]) rfl ?_
            have hrs := wp_s hf
            subst hrs
            exact RET H locs ls 81 dX3_window_81 rfl hH

def fX3_gainBehind (v1 : Int32) (v2 : Int32) (v3 : Int32) (v4 : Int32) (v5 : Int32) (yn : LandT) (ym : LandT) : Option (Int32 × LandT) :=
  Option.bind (fX3_inMind yn ym) fun x1 =>
  Option.bind (fX0_goOn v2 v3 x1) fun x2 =>
  Option.bind (fX0_goOn v4 v5 x2) fun x3 =>
  Option.bind (fX0_passHours v1 x3) fun x4 =>
  Option.bind (fX0_branchesWith 1 x4) fun x5 =>
  Option.bind (fJ6_bitCount_0f7a4 x5) fun x6 =>
  Option.bind (fX0_branchesWith 2 x4) fun x7 =>
  Option.bind (fJ6_bitCount_0f7a4 x7) fun x8 =>
  some (x6 - x8, x4)

def rmX3_gainBehind : Room := { frames := 5, cells := 0, slots := 0, locals := 112 }
theorem hdVX3_gainBehind : yX3_gainBehind.cls = RX3 ∧ yX3_gainBehind.cls ≠ "java/lang/invoke/MethodHandle" ∧ yX3_gainBehind.cls ≠ "java/lang/invoke/VarHandle" ∧ (parseMethodDescriptor yX3_gainBehind.desc).map (fun d => d.parameters.length) = some 5 := by decide +kernel
set_option maxHeartbeats 4000000 in
set_option maxRecDepth 100000 in
theorem ctX3_gainBehind {l : Launch} {D : va_G} {cI cJ cQ : ClassId} (ad : Nat → Nat) (yn : LandT) (ym : LandT) (yk : LandT) (yl : (Nat → Int32)) (yt : Int32) (yd : Int32) (yu : (Nat → Int32)) (ye : (Nat → Int32)) (yv : (Nat → Int32)) (yo : (Nat → Int64)) (y0 : (Nat → Int32)) (y1 : (Nat → Int32)) (yc : Int32) (yh : Int32) (v1 : Int32) (v2 : Int32) (v3 : Int32) (v4 : Int32) (v5 : Int32) {res : Int32 × LandT} (h : fX3_gainBehind v1 v2 v3 v4 v5 yn ym = some res) : CtI l D cI cJ cQ yX3_gainBehind wsX3_gainBehind rmX3_gainBehind [.ref (ad 0), .int v1, .int v2, .int v3, .int v4, .int v5] (wMn cI cJ cQ ad yn ym yk yl yt yd yu ye yv yo y0 y1 yc yh) res.1 (wMn cI cJ cQ ad yn res.2 yk yl yt yd yu ye yv yo y0 y1 yc yh) := by
  refine ctI_of .int (cc := cX3_gainBehind) (maxL := 7) (by decide) rfl (Nat.le_of_ble_eq_true rfl) ?_
  intro p e s m args below meth c A Q ls F hK hA RET hH hl
  obtain ⟨hx, hb, hml, hown, hts⟩ := id F
  have hl : lv_has ls 7 [(0, .ref (ad 0)), (1, .int v1), (2, .int v2), (3, .int v3), (4, .int v4), (5, .int v5)] := hl
  have hf : wpO (fX3_gainBehind v1 v2 v3 v4 v5 yn ym) (fun v => v = res) := ⟨_, h, rfl⟩
  obtain ⟨H, eH⟩ : ∃ H, H = s.heap := ⟨_, rfl⟩
  obtain ⟨locs, eL⟩ : ∃ locs : List Loc, locs = [] := ⟨_, rfl⟩
  have hH : Hs D A s.heap (wMn cI cJ cQ ad yn ym yk yl yt yd yu ye yv yo y0 y1 yc yh) H locs := by rw [eH, eL]; exact hH
  rw [← eL]
  suffices hgo : W p l e rmX3_gainBehind s m args below meth c H locs 0 0 Q (F0 m 0 ls []) by rw [eH] at hgo; exact hgo
  clear eH eL
  refine lv_aload_n hx hb dX3_gainBehind_0 rfl (lv_at hl 0 rfl) ?_
  obtain ⟨x1, hcl, hf⟩ := wp_b hf
  refine k_Vr0 F hK hH hA hl.1 ⟨Nat.zero_le _, Nat.zero_le _⟩ [] [] (ctX3_inMind ad yn ym yk yl yt yd yu ye yv yo y0 y1 yc yh hcl) (cwV 0 hts gX3_gainBehind_X3_inMind rfl rfl rfl hdVX3_inMind ⟨Nat.le_of_ble_eq_true rfl, Nat.le_of_ble_eq_true rfl⟩) dX3_gainBehind_1 0 rfl rfl rfl rfl rfl (Nat.le_of_ble_eq_true rfl) rfl (fun H locs hH => ?_)
  have hH : Hs D A s.heap (wMn cI cJ cQ ad yn x1 yk yl yt yd yu ye yv yo y0 y1 yc yh) H locs := hH
  refine W.eq (g2 := F0 m 4 ls [.ref (ad 9)]) rfl ?_
  refine lv_astore (lv' := [(6, .ref (ad 9)), (0, .ref (ad 0)), (1, .int v1), (2, .int v2), (3, .int v3), (4, .int v4), (5, .int v5)]) hx hb dX3_gainBehind_4 hl (by decide) rfl (fun ls hl => ?_)
  refine lv_aload hx hb dX3_gainBehind_6 (lv_at hl 0 rfl) ?_
  refine lv_iload_n hx hb dX3_gainBehind_8 rfl (lv_at hl 3 rfl) ?_
  refine lv_iload_n hx hb dX3_gainBehind_9 rfl (lv_at hl 4 rfl) ?_
  obtain ⟨x2, hcl, hf⟩ := wp_b hf
  refine k_Vv F hK hH hA hl.1 ⟨Nat.zero_le _, Nat.zero_le _⟩ [9, 10, 11, 12, 13, 14, 15, 16] [.int v2, .int v3] [] (ctX0_goOn (fun k => ad (9 + k)) x1 v2 v3 hcl) (cwV 2 hts gX3_gainBehind_X0_goOn rfl rfl rfl hdVX0_goOn ⟨Nat.le_of_ble_eq_true rfl, Nat.le_of_ble_eq_true rfl⟩) dX3_gainBehind_10 9 rfl rfl rfl rfl rfl (Nat.le_of_ble_eq_true rfl) rfl rfl (by decide) (fun H locs hH => ?_)
  have hH : Hs D A s.heap (wMn cI cJ cQ ad yn x2 yk yl yt yd yu ye yv yo y0 y1 yc yh) H locs := hH
  refine lv_aload hx hb dX3_gainBehind_13 (lv_at hl 0 rfl) ?_
  refine lv_iload hx hb dX3_gainBehind_15 (lv_at hl 5 rfl) ?_
  refine lv_iload hx hb dX3_gainBehind_17 (lv_at hl 6 rfl) ?_
  obtain ⟨x3, hcl, hf⟩ := wp_b hf
  refine k_Vv F hK hH hA hl.1 ⟨Nat.zero_le _, Nat.zero_le _⟩ [9, 10, 11, 12, 13, 14, 15, 16] [.int v4, .int v5] [] (ctX0_goOn (fun k => ad (9 + k)) x2 v4 v5 hcl) (cwV 2 hts gX3_gainBehind_X0_goOn rfl rfl rfl hdVX0_goOn ⟨Nat.le_of_ble_eq_true rfl, Nat.le_of_ble_eq_true rfl⟩) dX3_gainBehind_19 9 rfl rfl rfl rfl rfl (Nat.le_of_ble_eq_true rfl) rfl rfl (by decide) (fun H locs hH => ?_)
  have hH : Hs D A s.heap (wMn cI cJ cQ ad yn x3 yk yl yt yd yu ye yv yo y0 y1 yc yh) H locs := hH
  refine lv_aload hx hb dX3_gainBehind_22 (lv_at hl 0 rfl) ?_
  refine lv_iload_n hx hb dX3_gainBehind_24 rfl (lv_at hl 2 rfl) ?_
  obtain ⟨x4, hcl, hf⟩ := wp_b hf
  refine k_Vv F hK hH hA hl.1 ⟨Nat.zero_le _, Nat.zero_le _⟩ [9, 10, 11, 12, 13, 14, 15, 16] [.int v1] [] (ctX0_passHours (fun k => ad (9 + k)) x3 v1 hcl) (cwV 1 hts gX3_gainBehind_X0_passHours rfl rfl rfl hdVX0_passHours ⟨Nat.le_of_ble_eq_true rfl, Nat.le_of_ble_eq_true rfl⟩) dX3_gainBehind_25 9 rfl rfl rfl rfl rfl (Nat.le_of_ble_eq_true rfl) rfl rfl (by decide) (fun H locs hH => ?_)
  have hH : Hs D A s.heap (wMn cI cJ cQ ad yn x4 yk yl yt yd yu ye yv yo y0 y1 yc yh) H locs := hH
  refine lv_aload hx hb dX3_gainBehind_28 (lv_at hl 0 rfl) ?_
  refine lv_iconst (v := 1) hx hb dX3_gainBehind_30 (by decide) ?_
  obtain ⟨x5, hcl, hf⟩ := wp_b hf
  refine k_Vi F hK hH hA hl.1 ⟨Nat.zero_le _, Nat.zero_le _⟩ [9, 10, 11, 12, 13, 14, 15, 16] [.int 1] [] (ctX0_branchesWith (fun k => ad (9 + k)) x4 1 hcl) (cwV 1 hts gX3_gainBehind_X0_branchesWith rfl rfl rfl hdVX0_branchesWith ⟨Nat.le_of_ble_eq_true rfl, Nat.le_of_ble_eq_true rfl⟩) dX3_gainBehind_31 9 rfl rfl rfl rfl rfl (Nat.le_of_ble_eq_true rfl) rfl rfl (by decide) (fun H locs hH => ?_)
  have hH : Hs D A s.heap (wMn cI cJ cQ ad yn x4 yk yl yt yd yu ye yv yo y0 y1 yc yh) H locs := hH
  obtain ⟨x6, hcl, hf⟩ := wp_b hf
  refine k_Si F hK hH hA hl.1 ⟨Nat.zero_le _, Nat.zero_le _⟩ [] [.int x5] [] (ctJ6_bitCount_0f7a4 x5 hcl) (va_cwS 1 hts gX3_gainBehind_J6_bitCount_0f7a4 rfl rfl rfl hdSJ6_bitCount_0f7a4 ⟨Nat.le_of_ble_eq_true rfl, Nat.le_of_ble_eq_true rfl⟩) dX3_gainBehind_34 rfl rfl (Nat.le_of_ble_eq_true rfl) rfl rfl (by decide) (fun H locs hH => ?_)
  have hH : Hs D A s.heap (wMn cI cJ cQ ad yn x4 yk yl yt yd yu ye yv yo y0 y1 yc yh) H locs := hH
  refine lv_aload hx hb dX3_gainBehind_37 (lv_at hl 0 rfl) ?_
  refine lv_iconst (v := 2) hx hb dX3_gainBehind_39 (by decide) ?_
  obtain ⟨x7, hcl, hf⟩ := wp_b hf
  refine k_Vi F hK hH hA hl.1 ⟨Nat.zero_le _, Nat.zero_le _⟩ [9, 10, 11, 12, 13, 14, 15, 16] [.int 2] [.int x6] (ctX0_branchesWith (fun k => ad (9 + k)) x4 2 hcl) (cwV 1 hts gX3_gainBehind_X0_branchesWith rfl rfl rfl hdVX0_branchesWith ⟨Nat.le_of_ble_eq_true rfl, Nat.le_of_ble_eq_true rfl⟩) dX3_gainBehind_40 9 rfl rfl rfl rfl rfl (Nat.le_of_ble_eq_true rfl) rfl rfl (by decide) (fun H locs hH => ?_)
  have hH : Hs D A s.heap (wMn cI cJ cQ ad yn x4 yk yl yt yd yu ye yv yo y0 y1 yc yh) H locs := hH
  obtain ⟨x8, hcl, hf⟩ := wp_b hf
  refine k_Si F hK hH hA hl.1 ⟨Nat.zero_le _, Nat.zero_le _⟩ [] [.int x7] [.int x6] (ctJ6_bitCount_0f7a4 x7 hcl) (va_cwS 1 hts gX3_gainBehind_J6_bitCount_0f7a4 rfl rfl rfl hdSJ6_bitCount_0f7a4 ⟨Nat.le_of_ble_eq_true rfl, Nat.le_of_ble_eq_true rfl⟩) dX3_gainBehind_43 rfl rfl (Nat.le_of_ble_eq_true rfl) rfl rfl (by decide) (fun H locs hH => ?_)
  have hH : Hs D A s.heap (wMn cI cJ cQ ad yn x4 yk yl yt yd yu ye yv yo y0 y1 yc yh) H locs := hH
  refine lv_isub hx hb dX3_gainBehind_46 ?_
  have hrs := wp_s hf
  subst hrs
  exact RET H locs ls 47 dX3_gainBehind_47 rfl hH

def bX3_firstPairAtRest_9 (y0 : (Nat → Int32)) (y1 : (Nat → Int32)) (t1 : Int32) : (Int32) → Option ((Int32) ⊕ ((Int32) ⊕ (Unit))) := fun (t2 : Int32) =>
  if (1 : Int32) < t2 then
    some (.inr (.inr ()))
  else
    if t1 = 0 then
      if ob t2 2 then none else
      if (1 - t1) = 0 then
        if ob t2 2 then none else
        if (y0 (Int32.toNatClampNeg t2)) < (y0 (Int32.toNatClampNeg t2)) then
          some (.inl (t2 + 1))
        else
          if t1 = 0 then
            if ob (1 - t2) 2 then none else
            if (y0 (Int32.toNatClampNeg (1 - t2))) < (y0 (Int32.toNatClampNeg t2)) then
              some (.inl (t2 + 1))
            else
              some (.inr (.inl ((10 * t1) + t2)))
          else if t1 = 1 then
            if ob (1 - t2) 2 then none else
            if (y1 (Int32.toNatClampNeg (1 - t2))) < (y0 (Int32.toNatClampNeg t2)) then
              some (.inl (t2 + 1))
            else
              some (.inr (.inl ((10 * t1) + t2)))
          else none
      else if (1 - t1) = 1 then
        if ob t2 2 then none else
        if (y0 (Int32.toNatClampNeg t2)) < (y1 (Int32.toNatClampNeg t2)) then
          some (.inl (t2 + 1))
        else
          if t1 = 0 then
            if ob (1 - t2) 2 then none else
            if (y0 (Int32.toNatClampNeg (1 - t2))) < (y0 (Int32.toNatClampNeg t2)) then
              some (.inl (t2 + 1))
            else
              some (.inr (.inl ((10 * t1) + t2)))
          else if t1 = 1 then
            if ob (1 - t2) 2 then none else
            if (y1 (Int32.toNatClampNeg (1 - t2))) < (y0 (Int32.toNatClampNeg t2)) then
              some (.inl (t2 + 1))
            else
              some (.inr (.inl ((10 * t1) + t2)))
          else none
      else none
    else if t1 = 1 then
      if ob t2 2 then none else
      if (1 - t1) = 0 then
        if ob t2 2 then none else
        if (y1 (Int32.toNatClampNeg t2)) < (y0 (Int32.toNatClampNeg t2)) then
          some (.inl (t2 + 1))
        else
          if t1 = 0 then
            if ob (1 - t2) 2 then none else
            if (y0 (Int32.toNatClampNeg (1 - t2))) < (y1 (Int32.toNatClampNeg t2)) then
              some (.inl (t2 + 1))
            else
              some (.inr (.inl ((10 * t1) + t2)))
          else if t1 = 1 then
            if ob (1 - t2) 2 then none else
            if (y1 (Int32.toNatClampNeg (1 - t2))) < (y1 (Int32.toNatClampNeg t2)) then
              some (.inl (t2 + 1))
            else
              some (.inr (.inl ((10 * t1) + t2)))
          else none
      else if (1 - t1) = 1 then
        if ob t2 2 then none else
        if (y1 (Int32.toNatClampNeg t2)) < (y1 (Int32.toNatClampNeg t2)) then
          some (.inl (t2 + 1))
        else
          if t1 = 0 then
            if ob (1 - t2) 2 then none else
            if (y0 (Int32.toNatClampNeg (1 - t2))) < (y1 (Int32.toNatClampNeg t2)) then
              some (.inl (t2 + 1))
            else
              some (.inr (.inl ((10 * t1) + t2)))
          else if t1 = 1 then
            if ob (1 - t2) 2 then none else
            if (y1 (Int32.toNatClampNeg (1 - t2))) < (y1 (Int32.toNatClampNeg t2)) then
              some (.inl (t2 + 1))
            else
              some (.inr (.inl ((10 * t1) + t2)))
          else none
      else none
    else none

def bX3_firstPairAtRest_2 (y0 : (Nat → Int32)) (y1 : (Nat → Int32)) : (Int32) → Option ((Int32) ⊕ ((Int32) ⊕ (Unit))) := fun (t1 : Int32) =>
  if (1 : Int32) < t1 then
    some (.inr (.inr ()))
  else
    Option.bind (lp (bX3_firstPairAtRest_9 y0 y1 t1) fu 0) (el (fun v => some (.inr (.inl v))) (fun (_ : Unit) =>
      some (.inl (t1 + 1))))

def fX3_firstPairAtRest (y0 : (Nat → Int32)) (y1 : (Nat → Int32)) : Option (Int32) :=
  Option.bind (lp (bX3_firstPairAtRest_2 y0 y1) fu 0) (el (fun v => some v) (fun (_ : Unit) =>
    some (-9)))

def rmX3_firstPairAtRest : Room := { frames := 0, cells := 0, slots := 0, locals := 0 }
theorem mbX3_firstPairAtRest_f52 : Cond.fieldLink RX3 52 (TX3 9).1 (TX3 9).2.1 (TX3 9).2.2.1 ∈ wsX3_firstPairAtRest := by decide +kernel
theorem inX3_firstPairAtRest_X3 : ∀ w ∈ wsX30, w ∈ wsX3_firstPairAtRest := by decide +kernel
theorem hdVX3_firstPairAtRest : yX3_firstPairAtRest.cls = RX3 ∧ yX3_firstPairAtRest.cls ≠ "java/lang/invoke/MethodHandle" ∧ yX3_firstPairAtRest.cls ≠ "java/lang/invoke/VarHandle" ∧ (parseMethodDescriptor yX3_firstPairAtRest.desc).map (fun d => d.parameters.length) = some 0 := by decide +kernel
set_option maxHeartbeats 4000000 in
set_option maxRecDepth 100000 in
theorem ctX3_firstPairAtRest {l : Launch} {D : va_G} {cI cJ cQ : ClassId} (ad : Nat → Nat) (yn : LandT) (ym : LandT) (yk : LandT) (yl : (Nat → Int32)) (yt : Int32) (yd : Int32) (yu : (Nat → Int32)) (ye : (Nat → Int32)) (yv : (Nat → Int32)) (yo : (Nat → Int64)) (y0 : (Nat → Int32)) (y1 : (Nat → Int32)) (yc : Int32) (yh : Int32)  {res : Int32} (h : fX3_firstPairAtRest y0 y1 = some res) : CtI l D cI cJ cQ yX3_firstPairAtRest wsX3_firstPairAtRest rmX3_firstPairAtRest [.ref (ad 0)] (wMn cI cJ cQ ad yn ym yk yl yt yd yu ye yv yo y0 y1 yc yh) res (wMn cI cJ cQ ad yn ym yk yl yt yd yu ye yv yo y0 y1 yc yh) := by
  refine ctI_of .int (cc := cX3_firstPairAtRest) (maxL := 4) (by decide) rfl (Nat.le_of_ble_eq_true rfl) ?_
  intro p e s m args below meth c A Q ls F hK hA RET hH hl
  obtain ⟨hx, hb, hml, hown, hts⟩ := id F
  have hl : lv_has ls 4 [(0, .ref (ad 0))] := hl
  have hf : wpO (fX3_firstPairAtRest y0 y1) (fun v => v = res) := ⟨_, h, rfl⟩
  obtain ⟨H, eH⟩ : ∃ H, H = s.heap := ⟨_, rfl⟩
  obtain ⟨locs, eL⟩ : ∃ locs : List Loc, locs = [] := ⟨_, rfl⟩
  have hH : Hs D A s.heap (wMn cI cJ cQ ad yn ym yk yl yt yd yu ye yv yo y0 y1 yc yh) H locs := by rw [eH, eL]; exact hH
  rw [← eL]
  suffices hgo : W p l e rmX3_firstPairAtRest s m args below meth c H locs 0 0 Q (F0 m 0 ls []) by rw [eH] at hgo; exact hgo
  clear eH eL
  refine lv_iconst (v := 0) hx hb dX3_firstPairAtRest_0 (by decide) ?_
  refine lv_istore_n (lv' := [(1, .int 0), (0, .ref (ad 0))]) hx hb dX3_firstPairAtRest_1 rfl hl (by decide) rfl (fun ls hl => ?_)
  have LP : ∀ (Φ : ((Int32) ⊕ (Unit)) → Prop), (∀ v : Int32, Φ (.inl v) → v = res) → (∀ (_ : Unit) (H : Heap) (locs : List Loc) (ls : Array Slot), Φ (.inr ()) → Hs D A s.heap (wMn cI cJ cQ ad yn ym yk yl yt yd yu ye yv yo y0 y1 yc yh) H locs → lv_has ls 4 [] → W p l e rmX3_firstPairAtRest s m args below meth c H locs 0 0 Q (F0 m 70 ls [])) → ∀ (n : Nat) (t1 : Int32) (H : Heap) (locs : List Loc) (ls : Array Slot), wpO (lp (bX3_firstPairAtRest_2 y0 y1) n t1) Φ → Hs D A s.heap (wMn cI cJ cQ ad yn ym yk yl yt yd yu ye yv yo y0 y1 yc yh) H locs → lv_has ls 4 [(0, .ref (ad 0)), (1, .int t1)] → W p l e rmX3_firstPairAtRest s m args below meth c H locs 0 0 Q (F0 m 2 ls []) := by
    intro Φ hret EX n
    induction n with
    | zero =>
      intro t1 H locs ls hf hH hl
      exact (wp_l0 hf).elim
    | succ n ih =>
      intro t1 H locs ls hf hH hl
      have hf := wp_l hf
      refine lv_iload_n hx hb dX3_firstPairAtRest_2 rfl (lv_at hl 1 rfl) ?_
      refine lv_iconst (v := 1) hx hb dX3_firstPairAtRest_3 (by decide) ?_
      refine lv_icmp_gt (tgt := 70) hx hb dX3_firstPairAtRest_4 (by decide) (fun hc => ?_) (fun hc => ?_)
      · have hf := wp_t hc hf
        have hw := wp_out hf
        exact EX () _ _ _ hw hH (lv_sub hl [] rfl)
      · have hf := wp_f hc hf
        refine lv_iconst (v := 0) hx hb dX3_firstPairAtRest_7 (by decide) ?_
        refine lv_istore_n (lv' := [(2, .int 0), (0, .ref (ad 0)), (1, .int t1)]) hx hb dX3_firstPairAtRest_8 rfl hl (by decide) rfl (fun ls hl => ?_)
        have LP : ∀ (Φ : ((Int32) ⊕ (Unit)) → Prop), (∀ v : Int32, Φ (.inl v) → v = res) → (∀ (_ : Unit) (H : Heap) (locs : List Loc) (ls : Array Slot), Φ (.inr ()) → Hs D A s.heap (wMn cI cJ cQ ad yn ym yk yl yt yd yu ye yv yo y0 y1 yc yh) H locs → lv_has ls 4 [(0, .ref (ad 0)), (1, .int t1)] → W p l e rmX3_firstPairAtRest s m args below meth c H locs 0 0 Q (F0 m 64 ls [])) → ∀ (n : Nat) (t2 : Int32) (H : Heap) (locs : List Loc) (ls : Array Slot), wpO (lp (bX3_firstPairAtRest_9 y0 y1 t1) n t2) Φ → Hs D A s.heap (wMn cI cJ cQ ad yn ym yk yl yt yd yu ye yv yo y0 y1 yc yh) H locs → lv_has ls 4 [(0, .ref (ad 0)), (1, .int t1), (2, .int t2)] → W p l e rmX3_firstPairAtRest s m args below meth c H locs 0 0 Q (F0 m 9 ls []) := by
          intro Φ hret EX n
          induction n with
          | zero =>
            intro t2 H locs ls hf hH hl
            exact (wp_l0 hf).elim
          | succ n ih =>
            intro t2 H locs ls hf hH hl
            have hf := wp_l hf
            refine lv_iload_n hx hb dX3_firstPairAtRest_9 rfl (lv_at hl 2 rfl) ?_
            refine lv_iconst (v := 1) hx hb dX3_firstPairAtRest_10 (by decide) ?_
            refine lv_icmp_gt (tgt := 64) hx hb dX3_firstPairAtRest_11 (by decide) (fun hc => ?_) (fun hc => ?_)
            · have hf := wp_t hc hf
              have hw := wp_out hf
              exact EX () _ _ _ hw hH (lv_sub hl [0, 1] rfl)
            · have hf := wp_f hc hf
              refine lv_aload_n hx hb dX3_firstPairAtRest_14 rfl (lv_at hl 0 rfl) ?_
              refine k_get (v := .ref (ad 32)) F hK hH 0 inX3_firstPairAtRest_X3 9 mbX3_firstPairAtRest_f52 dX3_firstPairAtRest_15 rfl rfl (by decide) rfl ?_
              refine lv_iload_n hx hb dX3_firstPairAtRest_18 rfl (lv_at hl 1 rfl) ?_
              by_cases hq0 : t1 = 0
              · have hf := wp_t hq0 hf
                refine k_aald (f := (fun i => if i = 0 then some (ad 33) else some (ad 34))) (n := 2) F hK hH 32 dX3_firstPairAtRest_19 (by rw [hq0]; decide) rfl ?_
                rw [hq0]
                refine W.eq (g2 := F0 m 20 ls [.ref (ad 33)]) rfl ?_
                skip
                refine lv_iload_n hx hb dX3_firstPairAtRest_20 rfl (lv_at hl 2 rfl) ?_
                obtain ⟨hi, hf⟩ := wp_n hf
                refine k_iald (f := y0) (n := 2) F hK hH 33 dX3_firstPairAtRest_21 hi rfl ?_
                refine lv_istore_n (lv' := [(3, .int (y0 (Int32.toNatClampNeg t2))), (0, .ref (ad 0)), (1, .int t1), (2, .int t2)]) hx hb dX3_firstPairAtRest_22 rfl hl (by decide) rfl (fun ls hl => ?_)
                refine lv_iload_n hx hb dX3_firstPairAtRest_23 rfl (lv_at hl 0 rfl) ?_
                refine lv_aload_n hx hb dX3_firstPairAtRest_24 rfl (lv_at hl 1 rfl) ?_
                refine k_get (v := .ref (ad 32)) F hK hH 0 inX3_firstPairAtRest_X3 9 mbX3_firstPairAtRest_f52 dX3_firstPairAtRest_25 rfl rfl (by decide) rfl ?_
                refine lv_iconst (v := 1) hx hb dX3_firstPairAtRest_28 (by decide) ?_
                refine lv_iload_n hx hb dX3_firstPairAtRest_29 rfl (lv_at hl 2 rfl) ?_
                refine lv_isub hx hb dX3_firstPairAtRest_30 ?_
                by_cases hq0 : (1 - t1) = 0
                · have hf := wp_t hq0 hf
                  refine k_aald (f := (fun i => if i = 0 then some (ad 33) else some (ad 34))) (n := 2) F hK hH 32 dX3_firstPairAtRest_31 (by rw [hq0]; decide) rfl ?_
                  rw [hq0]
                  refine W.eq (g2 := F0 m 32 ls [.ref (ad 33), .int (y0 (Int32.toNatClampNeg t2))]) rfl ?_
                  skip
                  refine lv_iload_n hx hb dX3_firstPairAtRest_32 rfl (lv_at hl 3 rfl) ?_
                  obtain ⟨hi, hf⟩ := wp_n hf
                  refine k_iald (f := y0) (n := 2) F hK hH 33 dX3_firstPairAtRest_33 hi rfl ?_
                  refine lv_icmp_lt (tgt := 58) hx hb dX3_firstPairAtRest_34 (by decide) (fun hc => ?_) (fun hc => ?_)
                  · have hf := wp_t hc hf
                    refine lv_iinc (v := t2 + 1) (lv' := [(2, .int (t2 + 1)), (3, .int (y0 (Int32.toNatClampNeg t2))), (0, .ref (ad 0)), (1, .int t1)]) hx hb dX3_firstPairAtRest_58 hl (k := 3) rfl rfl (by decide) rfl (fun ls hl => ?_)
                    refine lv_goto (tgt := 9) hx hb dX3_firstPairAtRest_61 (by decide) ?_
                    have hw := wp_in hf
                    exact ih _ _ _ _ hw hH (lv_sub hl [2, 3, 0] rfl)
                  · have hf := wp_f hc hf
                    refine lv_iload_n hx hb dX3_firstPairAtRest_37 rfl (lv_at hl 0 rfl) ?_
                    refine lv_aload_n hx hb dX3_firstPairAtRest_38 rfl (lv_at hl 1 rfl) ?_
                    refine k_get (v := .ref (ad 32)) F hK hH 0 inX3_firstPairAtRest_X3 9 mbX3_firstPairAtRest_f52 dX3_firstPairAtRest_39 rfl rfl (by decide) rfl ?_
                    refine lv_iload_n hx hb dX3_firstPairAtRest_42 rfl (lv_at hl 2 rfl) ?_
                    by_cases hq0 : t1 = 0
                    · have hf := wp_t hq0 hf
                      refine k_aald (f := (fun i => if i = 0 then some (ad 33) else some (ad 34))) (n := 2) F hK hH 32 dX3_firstPairAtRest_43 (by rw [hq0]; decide) rfl ?_
                      rw [hq0]
                      refine W.eq (g2 := F0 m 44 ls [.ref (ad 33), .int (y0 (Int32.toNatClampNeg t2))]) rfl ?_
                      skip
                      refine lv_iconst (v := 1) hx hb dX3_firstPairAtRest_44 (by decide) ?_
                      refine lv_iload_n hx hb dX3_firstPairAtRest_45 rfl (lv_at hl 3 rfl) ?_
                      refine lv_isub hx hb dX3_firstPairAtRest_46 ?_
                      obtain ⟨hi, hf⟩ := wp_n hf
                      refine k_iald (f := y0) (n := 2) F hK hH 33 dX3_firstPairAtRest_47 hi rfl ?_
                      refine lv_icmp_gt (tgt := 58) hx hb dX3_firstPairAtRest_48 (by decide) (fun hc => ?_) (fun hc => ?_)
                      · have hf := wp_t hc hf
                        refine lv_iinc (v := t2 + 1) (lv' := [(2, .int (t2 + 1)), (3, .int (y0 (Int32.toNatClampNeg t2))), (0, .ref (ad 0)), (1, .int t1)]) hx hb dX3_firstPairAtRest_58 hl (k := 3) rfl rfl (by decide) rfl (fun ls hl => ?_)
                        refine lv_goto (tgt := 9) hx hb dX3_firstPairAtRest_61 (by decide) ?_
                        have hw := wp_in hf
                        exact ih _ _ _ _ hw hH (lv_sub hl [2, 3, 0] rfl)
                      · have hf := wp_f hc hf
                        refine lv_bipush (v := 10) hx hb dX3_firstPairAtRest_51 (by decide) ?_
                        refine lv_iload_n hx hb dX3_firstPairAtRest_53 rfl (lv_at hl 2 rfl) ?_
                        refine lv_imul hx hb dX3_firstPairAtRest_54 ?_
                        refine lv_iload_n hx hb dX3_firstPairAtRest_55 rfl (lv_at hl 3 rfl) ?_
                        refine lv_iadd hx hb dX3_firstPairAtRest_56 ?_
                        have hrs := hret _ (wp_out hf)
                        subst hrs
                        exact RET H locs ls 57 dX3_firstPairAtRest_57 rfl hH
                    · have hf := wp_f hq0 hf
                      by_cases hq1 : t1 = 1
                      · have hf := wp_t hq1 hf
                        refine k_aald (f := (fun i => if i = 0 then some (ad 33) else some (ad 34))) (n := 2) F hK hH 32 dX3_firstPairAtRest_43 (by rw [hq1]; decide) rfl ?_
                        rw [hq1]
                        refine W.eq (g2 := F0 m 44 ls [.ref (ad 34), .int (y0 (Int32.toNatClampNeg t2))]) rfl ?_
                        refine lv_iconst (v := 1) hx hb dX3_firstPairAtRest_44 (by decide) ?_
                        refine lv_iload_n hx hb dX3_firstPairAtRest_45 rfl (lv_at hl 3 rfl) ?_
                        refine lv_isub hx hb dX3_firstPairAtRest_46 ?_
                        obtain ⟨hi, hf⟩ := wp_n hf
                        refine k_iald (f := y1) (n := 2) F hK hH 34 dX3_firstPairAtRest_47 hi rfl ?_
                        refine lv_icmp_gt (tgt := 58) hx hb dX3_firstPairAtRest_48 (by decide) (fun hc => ?_) (fun hc => ?_)
                        · have hf := wp_t hc hf
                          refine lv_iinc (v := t2 + 1) (lv' := [(2, .int (t2 + 1)), (3, .int (y0 (Int32.toNatClampNeg t2))), (0, .ref (ad 0)), (1, .int t1)]) hx hb dX3_firstPairAtRest_58 hl (k := 3) rfl rfl (by decide) rfl (fun ls hl => ?_)
                          refine lv_goto (tgt := 9) hx hb dX3_firstPairAtRest_61 (by decide) ?_
                          have hw := wp_in hf
                          exact ih _ _ _ _ hw hH (lv_sub hl [2, 3, 0] rfl)
                        · have hf := wp_f hc hf
                          refine lv_bipush (v := 10) hx hb dX3_firstPairAtRest_51 (by decide) ?_
                          refine lv_iload_n hx hb dX3_firstPairAtRest_53 rfl (lv_at hl 2 rfl) ?_
                          refine lv_imul hx hb dX3_firstPairAtRest_54 ?_
                          refine lv_iload_n hx hb dX3_firstPairAtRest_55 rfl (lv_at hl 3 rfl) ?_
                          refine lv_iadd hx hb dX3_firstPairAtRest_56 ?_
                          have hrs := hret _ (wp_out hf)
                          subst hrs
                          exact RET H locs ls 57 dX3_firstPairAtRest_57 rfl hH
                      · exact (wp_0 (wp_f hq1 hf)).elim
                · have hf := wp_f hq0 hf
                  by_cases hq1 : (1 - t1) = 1
                  · have hf := wp_t hq1 hf
                    refine k_aald (f := (fun i => if i = 0 then some (ad 33) else some (ad 34))) (n := 2) F hK hH 32 dX3_firstPairAtRest_31 (by rw [hq1]; decide) rfl ?_
                    rw [hq1]
                    refine W.eq (g2 := F0 m 32 ls [.ref (ad 34), .int (y0 (Int32.toNatClampNeg t2))]) rfl ?_
                    refine lv_iload_n hx hb dX3_firstPairAtRest_32 rfl (lv_at hl 3 rfl) ?_
                    obtain ⟨hi, hf⟩ := wp_n hf
                    refine k_iald (f := y1) (n := 2) F hK hH 34 dX3_firstPairAtRest_33 hi rfl ?_
                    refine lv_icmp_lt (tgt := 58) hx hb dX3_firstPairAtRest_34 (by decide) (fun hc => ?_) (fun hc => ?_)
                    · have hf := wp_t hc hf
                      refine lv_iinc (v := t2 + 1) (lv' := [(2, .int (t2 + 1)), (3, .int (y0 (Int32.toNatClampNeg t2))), (0, .ref (ad 0)), (1, .int t1)]) hx hb dX3_firstPairAtRest_58 hl (k := 3) rfl rfl (by decide) rfl (fun ls hl => ?_)
                      refine lv_goto (tgt := 9) hx hb dX3_firstPairAtRest_61 (by decide) ?_
                      have hw := wp_in hf
                      exact ih _ _ _ _ hw hH (lv_sub hl [2, 3, 0] rfl)
                    · have hf := wp_f hc hf
                      refine lv_iload_n hx hb dX3_firstPairAtRest_37 rfl (lv_at hl 0 rfl) ?_
                      refine lv_aload_n hx hb dX3_firstPairAtRest_38 rfl (lv_at hl 1 rfl) ?_
                      refine k_get (v := .ref (ad 32)) F hK hH 0 inX3_firstPairAtRest_X3 9 mbX3_firstPairAtRest_f52 dX3_firstPairAtRest_39 rfl rfl (by decide) rfl ?_
                      refine lv_iload_n hx hb dX3_firstPairAtRest_42 rfl (lv_at hl 2 rfl) ?_
                      by_cases hq0 : t1 = 0
                      · have hf := wp_t hq0 hf
                        refine k_aald (f := (fun i => if i = 0 then some (ad 33) else some (ad 34))) (n := 2) F hK hH 32 dX3_firstPairAtRest_43 (by rw [hq0]; decide) rfl ?_
                        rw [hq0]
                        refine W.eq (g2 := F0 m 44 ls [.ref (ad 33), .int (y0 (Int32.toNatClampNeg t2))]) rfl ?_
                        skip
                        refine lv_iconst (v := 1) hx hb dX3_firstPairAtRest_44 (by decide) ?_
                        refine lv_iload_n hx hb dX3_firstPairAtRest_45 rfl (lv_at hl 3 rfl) ?_
                        refine lv_isub hx hb dX3_firstPairAtRest_46 ?_
                        obtain ⟨hi, hf⟩ := wp_n hf
                        refine k_iald (f := y0) (n := 2) F hK hH 33 dX3_firstPairAtRest_47 hi rfl ?_
                        refine lv_icmp_gt (tgt := 58) hx hb dX3_firstPairAtRest_48 (by decide) (fun hc => ?_) (fun hc => ?_)
                        · have hf := wp_t hc hf
                          refine lv_iinc (v := t2 + 1) (lv' := [(2, .int (t2 + 1)), (3, .int (y0 (Int32.toNatClampNeg t2))), (0, .ref (ad 0)), (1, .int t1)]) hx hb dX3_firstPairAtRest_58 hl (k := 3) rfl rfl (by decide) rfl (fun ls hl => ?_)
                          refine lv_goto (tgt := 9) hx hb dX3_firstPairAtRest_61 (by decide) ?_
                          have hw := wp_in hf
                          exact ih _ _ _ _ hw hH (lv_sub hl [2, 3, 0] rfl)
                        · have hf := wp_f hc hf
                          refine lv_bipush (v := 10) hx hb dX3_firstPairAtRest_51 (by decide) ?_
                          refine lv_iload_n hx hb dX3_firstPairAtRest_53 rfl (lv_at hl 2 rfl) ?_
                          refine lv_imul hx hb dX3_firstPairAtRest_54 ?_
                          refine lv_iload_n hx hb dX3_firstPairAtRest_55 rfl (lv_at hl 3 rfl) ?_
                          refine lv_iadd hx hb dX3_firstPairAtRest_56 ?_
                          have hrs := hret _ (wp_out hf)
                          subst hrs
                          exact RET H locs ls 57 dX3_firstPairAtRest_57 rfl hH
                      · have hf := wp_f hq0 hf
                        by_cases hq1 : t1 = 1
                        · have hf := wp_t hq1 hf
                          refine k_aald (f := (fun i => if i = 0 then some (ad 33) else some (ad 34))) (n := 2) F hK hH 32 dX3_firstPairAtRest_43 (by rw [hq1]; decide) rfl ?_
                          rw [hq1]
                          refine W.eq (g2 := F0 m 44 ls [.ref (ad 34), .int (y0 (Int32.toNatClampNeg t2))]) rfl ?_
                          refine lv_iconst (v := 1) hx hb dX3_firstPairAtRest_44 (by decide) ?_
                          refine lv_iload_n hx hb dX3_firstPairAtRest_45 rfl (lv_at hl 3 rfl) ?_
                          refine lv_isub hx hb dX3_firstPairAtRest_46 ?_
                          obtain ⟨hi, hf⟩ := wp_n hf
                          refine k_iald (f := y1) (n := 2) F hK hH 34 dX3_firstPairAtRest_47 hi rfl ?_
                          refine lv_icmp_gt (tgt := 58) hx hb dX3_firstPairAtRest_48 (by decide) (fun hc => ?_) (fun hc => ?_)
                          · have hf := wp_t hc hf
                            refine lv_iinc (v := t2 + 1) (lv' := [(2, .int (t2 + 1)), (3, .int (y0 (Int32.toNatClampNeg t2))), (0, .ref (ad 0)), (1, .int t1)]) hx hb dX3_firstPairAtRest_58 hl (k := 3) rfl rfl (by decide) rfl (fun ls hl => ?_)
                            refine lv_goto (tgt := 9) hx hb dX3_firstPairAtRest_61 (by decide) ?_
                            have hw := wp_in hf
                            exact ih _ _ _ _ hw hH (lv_sub hl [2, 3, 0] rfl)
                          · have hf := wp_f hc hf
                            refine lv_bipush (v := 10) hx hb dX3_firstPairAtRest_51 (by decide) ?_
                            refine lv_iload_n hx hb dX3_firstPairAtRest_53 rfl (lv_at hl 2 rfl) ?_
                            refine lv_imul hx hb dX3_firstPairAtRest_54 ?_
                            refine lv_iload_n hx hb dX3_firstPairAtRest_55 rfl (lv_at hl 3 rfl) ?_
                            refine lv_iadd hx hb dX3_firstPairAtRest_56 ?_
                            have hrs := hret _ (wp_out hf)
                            subst hrs
                            exact RET H locs ls 57 dX3_firstPairAtRest_57 rfl hH
                        · exact (wp_0 (wp_f hq1 hf)).elim
                  · exact (wp_0 (wp_f hq1 hf)).elim
              · have hf := wp_f hq0 hf
                by_cases hq1 : t1 = 1
                · have hf := wp_t hq1 hf
                  refine k_aald (f := (fun i => if i = 0 then some (ad 33) else some (ad 34))) (n := 2) F hK hH 32 dX3_firstPairAtRest_19 (by rw [hq1]; decide) rfl ?_
                  rw [hq1]
                  refine W.eq (g2 := F0 m 20 ls [.ref (ad 34)]) rfl ?_
                  refine lv_iload_n hx hb dX3_firstPairAtRest_20 rfl (lv_at hl 2 rfl) ?_
                  obtain ⟨hi, hf⟩ := wp_n hf
                  refine k_iald (f := y1) (n := 2) F hK hH 34 dX3_firstPairAtRest_21 hi rfl ?_
                  refine lv_istore_n (lv' := [(3, .int (y1 (Int32.toNatClampNeg t2))), (0, .ref (ad 0)), (1, .int t1), (2, .int t2)]) hx hb dX3_firstPairAtRest_22 rfl hl (by decide) rfl (fun ls hl => ?_)
                  refine lv_iload_n hx hb dX3_firstPairAtRest_23 rfl (lv_at hl 0 rfl) ?_
                  refine lv_aload_n hx hb dX3_firstPairAtRest_24 rfl (lv_at hl 1 rfl) ?_
                  refine k_get (v := .ref (ad 32)) F hK hH 0 inX3_firstPairAtRest_X3 9 mbX3_firstPairAtRest_f52 dX3_firstPairAtRest_25 rfl rfl (by decide) rfl ?_
                  refine lv_iconst (v := 1) hx hb dX3_firstPairAtRest_28 (by decide) ?_
                  refine lv_iload_n hx hb dX3_firstPairAtRest_29 rfl (lv_at hl 2 rfl) ?_
                  refine lv_isub hx hb dX3_firstPairAtRest_30 ?_
                  by_cases hq0 : (1 - t1) = 0
                  · have hf := wp_t hq0 hf
                    refine k_aald (f := (fun i => if i = 0 then some (ad 33) else some (ad 34))) (n := 2) F hK hH 32 dX3_firstPairAtRest_31 (by rw [hq0]; decide) rfl ?_
                    rw [hq0]
                    refine W.eq (g2 := F0 m 32 ls [.ref (ad 33), .int (y1 (Int32.toNatClampNeg t2))]) rfl ?_
                    skip
                    refine lv_iload_n hx hb dX3_firstPairAtRest_32 rfl (lv_at hl 3 rfl) ?_
                    obtain ⟨hi, hf⟩ := wp_n hf
                    refine k_iald (f := y0) (n := 2) F hK hH 33 dX3_firstPairAtRest_33 hi rfl ?_
                    refine lv_icmp_lt (tgt := 58) hx hb dX3_firstPairAtRest_34 (by decide) (fun hc => ?_) (fun hc => ?_)
                    · have hf := wp_t hc hf
                      refine lv_iinc (v := t2 + 1) (lv' := [(2, .int (t2 + 1)), (3, .int (y1 (Int32.toNatClampNeg t2))), (0, .ref (ad 0)), (1, .int t1)]) hx hb dX3_firstPairAtRest_58 hl (k := 3) rfl rfl (by decide) rfl (fun ls hl => ?_)
                      refine lv_goto (tgt := 9) hx hb dX3_firstPairAtRest_61 (by decide) ?_
                      have hw := wp_in hf
                      exact ih _ _ _ _ hw hH (lv_sub hl [2, 3, 0] rfl)
                    · have hf := wp_f hc hf
                      refine lv_iload_n hx hb dX3_firstPairAtRest_37 rfl (lv_at hl 0 rfl) ?_
                      refine lv_aload_n hx hb dX3_firstPairAtRest_38 rfl (lv_at hl 1 rfl) ?_
                      refine k_get (v := .ref (ad 32)) F hK hH 0 inX3_firstPairAtRest_X3 9 mbX3_firstPairAtRest_f52 dX3_firstPairAtRest_39 rfl rfl (by decide) rfl ?_
                      refine lv_iload_n hx hb dX3_firstPairAtRest_42 rfl (lv_at hl 2 rfl) ?_
                      by_cases hq0 : t1 = 0
                      · have hf := wp_t hq0 hf
                        refine k_aald (f := (fun i => if i = 0 then some (ad 33) else some (ad 34))) (n := 2) F hK hH 32 dX3_firstPairAtRest_43 (by rw [hq0]; decide) rfl ?_
                        rw [hq0]
                        refine W.eq (g2 := F0 m 44 ls [.ref (ad 33), .int (y1 (Int32.toNatClampNeg t2))]) rfl ?_
                        skip
                        refine lv_iconst (v := 1) hx hb dX3_firstPairAtRest_44 (by decide) ?_
                        refine lv_iload_n hx hb dX3_firstPairAtRest_45 rfl (lv_at hl 3 rfl) ?_
                        refine lv_isub hx hb dX3_firstPairAtRest_46 ?_
                        obtain ⟨hi, hf⟩ := wp_n hf
                        refine k_iald (f := y0) (n := 2) F hK hH 33 dX3_firstPairAtRest_47 hi rfl ?_
                        refine lv_icmp_gt (tgt := 58) hx hb dX3_firstPairAtRest_48 (by decide) (fun hc => ?_) (fun hc => ?_)
                        · have hf := wp_t hc hf
                          refine lv_iinc (v := t2 + 1) (lv' := [(2, .int (t2 + 1)), (3, .int (y1 (Int32.toNatClampNeg t2))), (0, .ref (ad 0)), (1, .int t1)]) hx hb dX3_firstPairAtRest_58 hl (k := 3) rfl rfl (by decide) rfl (fun ls hl => ?_)
                          refine lv_goto (tgt := 9) hx hb dX3_firstPairAtRest_61 (by decide) ?_
                          have hw := wp_in hf
                          exact ih _ _ _ _ hw hH (lv_sub hl [2, 3, 0] rfl)
                        · have hf := wp_f hc hf
                          refine lv_bipush (v := 10) hx hb dX3_firstPairAtRest_51 (by decide) ?_
                          refine lv_iload_n hx hb dX3_firstPairAtRest_53 rfl (lv_at hl 2 rfl) ?_
                          refine lv_imul hx hb dX3_firstPairAtRest_54 ?_
                          refine lv_iload_n hx hb dX3_firstPairAtRest_55 rfl (lv_at hl 3 rfl) ?_
                          refine lv_iadd hx hb dX3_firstPairAtRest_56 ?_
                          have hrs := hret _ (wp_out hf)
                          subst hrs
                          exact RET H locs ls 57 dX3_firstPairAtRest_57 rfl hH
                      · have hf := wp_f hq0 hf
                        by_cases hq1 : t1 = 1
                        · have hf := wp_t hq1 hf
                          refine k_aald (f := (fun i => if i = 0 then some (ad 33) else some (ad 34))) (n := 2) F hK hH 32 dX3_firstPairAtRest_43 (by rw [hq1]; decide) rfl ?_
                          rw [hq1]
                          refine W.eq (g2 := F0 m 44 ls [.ref (ad 34), .int (y1 (Int32.toNatClampNeg t2))]) rfl ?_
                          refine lv_iconst (v := 1) hx hb dX3_firstPairAtRest_44 (by decide) ?_
                          refine lv_iload_n hx hb dX3_firstPairAtRest_45 rfl (lv_at hl 3 rfl) ?_
                          refine lv_isub hx hb dX3_firstPairAtRest_46 ?_
                          obtain ⟨hi, hf⟩ := wp_n hf
                          refine k_iald (f := y1) (n := 2) F hK hH 34 dX3_firstPairAtRest_47 hi rfl ?_
                          refine lv_icmp_gt (tgt := 58) hx hb dX3_firstPairAtRest_48 (by decide) (fun hc => ?_) (fun hc => ?_)
                          · have hf := wp_t hc hf
                            refine lv_iinc (v := t2 + 1) (lv' := [(2, .int (t2 + 1)), (3, .int (y1 (Int32.toNatClampNeg t2))), (0, .ref (ad 0)), (1, .int t1)]) hx hb dX3_firstPairAtRest_58 hl (k := 3) rfl rfl (by decide) rfl (fun ls hl => ?_)
                            refine lv_goto (tgt := 9) hx hb dX3_firstPairAtRest_61 (by decide) ?_
                            have hw := wp_in hf
                            exact ih _ _ _ _ hw hH (lv_sub hl [2, 3, 0] rfl)
                          · have hf := wp_f hc hf
                            refine lv_bipush (v := 10) hx hb dX3_firstPairAtRest_51 (by decide) ?_
                            refine lv_iload_n hx hb dX3_firstPairAtRest_53 rfl (lv_at hl 2 rfl) ?_
                            refine lv_imul hx hb dX3_firstPairAtRest_54 ?_
                            refine lv_iload_n hx hb dX3_firstPairAtRest_55 rfl (lv_at hl 3 rfl) ?_
                            refine lv_iadd hx hb dX3_firstPairAtRest_56 ?_
                            have hrs := hret _ (wp_out hf)
                            subst hrs
                            exact RET H locs ls 57 dX3_firstPairAtRest_57 rfl hH
                        · exact (wp_0 (wp_f hq1 hf)).elim
                  · have hf := wp_f hq0 hf
                    by_cases hq1 : (1 - t1) = 1
                    · have hf := wp_t hq1 hf
                      refine k_aald (f := (fun i => if i = 0 then some (ad 33) else some (ad 34))) (n := 2) F hK hH 32 dX3_firstPairAtRest_31 (by rw [hq1]; decide) rfl ?_
                      rw [hq1]
                      refine W.eq (g2 := F0 m 32 ls [.ref (ad 34), .int (y1 (Int32.toNatClampNeg t2))]) rfl ?_
                      refine lv_iload_n hx hb dX3_firstPairAtRest_32 rfl (lv_at hl 3 rfl) ?_
                      obtain ⟨hi, hf⟩ := wp_n hf
                      refine k_iald (f := y1) (n := 2) F hK hH 34 dX3_firstPairAtRest_33 hi rfl ?_
                      refine lv_icmp_lt (tgt := 58) hx hb dX3_firstPairAtRest_34 (by decide) (fun hc => ?_) (fun hc => ?_)
                      · have hf := wp_t hc hf
                        refine lv_iinc (v := t2 + 1) (lv' := [(2, .int (t2 + 1)), (3, .int (y1 (Int32.toNatClampNeg t2))), (0, .ref (ad 0)), (1, .int t1)]) hx hb dX3_firstPairAtRest_58 hl (k := 3) rfl rfl (by decide) rfl (fun ls hl => ?_)
                        refine lv_goto (tgt := 9) hx hb dX3_firstPairAtRest_61 (by decide) ?_
                        have hw := wp_in hf
                        exact ih _ _ _ _ hw hH (lv_sub hl [2, 3, 0] rfl)
                      · have hf := wp_f hc hf
                        refine lv_iload_n hx hb dX3_firstPairAtRest_37 rfl (lv_at hl 0 rfl) ?_
                        refine lv_aload_n hx hb dX3_firstPairAtRest_38 rfl (lv_at hl 1 rfl) ?_
                        refine k_get (v := .ref (ad 32)) F hK hH 0 inX3_firstPairAtRest_X3 9 mbX3_firstPairAtRest_f52 dX3_firstPairAtRest_39 rfl rfl (by decide) rfl ?_
                        refine lv_iload_n hx hb dX3_firstPairAtRest_42 rfl (lv_at hl 2 rfl) ?_
                        by_cases hq0 : t1 = 0
                        · have hf := wp_t hq0 hf
                          refine k_aald (f := (fun i => if i = 0 then some (ad 33) else some (ad 34))) (n := 2) F hK hH 32 dX3_firstPairAtRest_43 (by rw [hq0]; decide) rfl ?_
                          rw [hq0]
                          refine W.eq (g2 := F0 m 44 ls [.ref (ad 33), .int (y1 (Int32.toNatClampNeg t2))]) rfl ?_
                          skip
                          refine lv_iconst (v := 1) hx hb dX3_firstPairAtRest_44 (by decide) ?_
                          refine lv_iload_n hx hb dX3_firstPairAtRest_45 rfl (lv_at hl 3 rfl) ?_
                          refine lv_isub hx hb dX3_firstPairAtRest_46 ?_
                          obtain ⟨hi, hf⟩ := wp_n hf
                          refine k_iald (f := y0) (n := 2) F hK hH 33 dX3_firstPairAtRest_47 hi rfl ?_
                          refine lv_icmp_gt (tgt := 58) hx hb dX3_firstPairAtRest_48 (by decide) (fun hc => ?_) (fun hc => ?_)
                          · have hf := wp_t hc hf
                            refine lv_iinc (v := t2 + 1) (lv' := [(2, .int (t2 + 1)), (3, .int (y1 (Int32.toNatClampNeg t2))), (0, .ref (ad 0)), (1, .int t1)]) hx hb dX3_firstPairAtRest_58 hl (k := 3) rfl rfl (by decide) rfl (fun ls hl => ?_)
                            refine lv_goto (tgt := 9) hx hb dX3_firstPairAtRest_61 (by decide) ?_
                            have hw := wp_in hf
                            exact ih _ _ _ _ hw hH (lv_sub hl [2, 3, 0] rfl)
                          · have hf := wp_f hc hf
                            refine lv_bipush (v := 10) hx hb dX3_firstPairAtRest_51 (by decide) ?_
                            refine lv_iload_n hx hb dX3_firstPairAtRest_53 rfl (lv_at hl 2 rfl) ?_
                            refine lv_imul hx hb dX3_firstPairAtRest_54 ?_
                            refine lv_iload_n hx hb dX3_firstPairAtRest_55 rfl (lv_at hl 3 rfl) ?_
                            refine lv_iadd hx hb dX3_firstPairAtRest_56 ?_
                            have hrs := hret _ (wp_out hf)
                            subst hrs
                            exact RET H locs ls 57 dX3_firstPairAtRest_57 rfl hH
                        · have hf := wp_f hq0 hf
                          by_cases hq1 : t1 = 1
                          · have hf := wp_t hq1 hf
                            refine k_aald (f := (fun i => if i = 0 then some (ad 33) else some (ad 34))) (n := 2) F hK hH 32 dX3_firstPairAtRest_43 (by rw [hq1]; decide) rfl ?_
                            rw [hq1]
                            refine W.eq (g2 := F0 m 44 ls [.ref (ad 34), .int (y1 (Int32.toNatClampNeg t2))]) rfl ?_
                            refine lv_iconst (v := 1) hx hb dX3_firstPairAtRest_44 (by decide) ?_
                            refine lv_iload_n hx hb dX3_firstPairAtRest_45 rfl (lv_at hl 3 rfl) ?_
                            refine lv_isub hx hb dX3_firstPairAtRest_46 ?_
                            obtain ⟨hi, hf⟩ := wp_n hf
                            refine k_iald (f := y1) (n := 2) F hK hH 34 dX3_firstPairAtRest_47 hi rfl ?_
                            refine lv_icmp_gt (tgt := 58) hx hb dX3_firstPairAtRest_48 (by decide) (fun hc => ?_) (fun hc => ?_)
                            · have hf := wp_t hc hf
                              refine lv_iinc (v := t2 + 1) (lv' := [(2, .int (t2 + 1)), (3, .int (y1 (Int32.toNatClampNeg t2))), (0, .ref (ad 0)), (1, .int t1)]) hx hb dX3_firstPairAtRest_58 hl (k := 3) rfl rfl (by decide) rfl (fun ls hl => ?_)
                              refine lv_goto (tgt := 9) hx hb dX3_firstPairAtRest_61 (by decide) ?_
                              have hw := wp_in hf
                              exact ih _ _ _ _ hw hH (lv_sub hl [2, 3, 0] rfl)
                            · have hf := wp_f hc hf
                              refine lv_bipush (v := 10) hx hb dX3_firstPairAtRest_51 (by decide) ?_
                              refine lv_iload_n hx hb dX3_firstPairAtRest_53 rfl (lv_at hl 2 rfl) ?_
                              refine lv_imul hx hb dX3_firstPairAtRest_54 ?_
                              refine lv_iload_n hx hb dX3_firstPairAtRest_55 rfl (lv_at hl 3 rfl) ?_
                              refine lv_iadd hx hb dX3_firstPairAtRest_56 ?_
                              have hrs := hret _ (wp_out hf)
                              subst hrs
                              exact RET H locs ls 57 dX3_firstPairAtRest_57 rfl hH
                          · exact (wp_0 (wp_f hq1 hf)).elim
                    · exact (wp_0 (wp_f hq1 hf)).elim
                · exact (wp_0 (wp_f hq1 hf)).elim
        refine LP _ (fun v hv => by have h9 := wp_out hv; exact hret _ (h9)) (fun _ H locs ls hf hH hl => ?_) fu _ _ _ _ (wp_bb hf) hH (lv_sub hl [1, 2, 0] rfl)
        refine lv_iinc (v := t1 + 1) (lv' := [(1, .int (t1 + 1)), (0, .ref (ad 0))]) hx hb dX3_firstPairAtRest_64 hl (k := 1) rfl rfl (by decide) rfl (fun ls hl => ?_)
        refine lv_goto (tgt := 2) hx hb dX3_firstPairAtRest_67 (by decide) ?_
        have hw := wp_in hf
        exact ih _ _ _ _ hw hH (lv_sub hl [1, 0] rfl)
  refine LP _ (fun v hv => by have h9 := wp_s hv; exact h9) (fun _ H locs ls hf hH hl => ?_) fu _ _ _ _ (wp_bb hf) hH (lv_sub hl [1, 0] rfl)
  refine lv_bipush (v := (-9)) hx hb dX3_firstPairAtRest_70 (by decide) ?_
  have hrs := wp_s hf
  subst hrs
  exact RET H locs ls 72 dX3_firstPairAtRest_72 rfl hH

