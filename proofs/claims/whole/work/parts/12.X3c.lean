def fX3_seen (v1 : Int32) (v2 : Int32) (yn : LandT) (ye : (Nat → Int32)) : Option (Int32 × (Nat → Int32)) :=
  Option.bind (fX3_isBranch v1) fun x1 =>
  if x1 = 0 then
    Option.bind (fX3_refuse (-1) ye) fun x10 =>
    some (x10.1, x10.2)
  else
    if v2 = 0 then
      Option.bind (fX0_sightFrom v1 yn) fun x2 =>
      some (x2, ye)
    else
      if v2 = 1 then
        Option.bind (fX0_verdictFrom v1 yn) fun x3 =>
        some (x3, ye)
      else
        if v2 = 2 then
          Option.bind (fX0_sightFrom v1 yn) fun x4 =>
          Option.bind (fX0_deciderIn x4 yn) fun x5 =>
          some (x5, ye)
        else
          if v2 = 3 then
            Option.bind (fX0_sightFrom v1 yn) fun x6 =>
            Option.bind (fX0_farthestIn x6 yn) fun x7 =>
            some (x7, ye)
          else
            if v2 = 4 then
              Option.bind (fX0_blindFrom v1 yn) fun x8 =>
              some (x8, ye)
            else
              Option.bind (fX3_refuse (-2) ye) fun x9 =>
              some (x9.1, x9.2)

def rmX3_seen : Room := { frames := 5, cells := 0, slots := 0, locals := 110 }
theorem mbX3_seen_f10 : Cond.fieldLink RX3 10 (TX3 0).1 (TX3 0).2.1 (TX3 0).2.2.1 ∈ wsX3_seen := by decide +kernel
theorem inX3_seen_X3 : ∀ w ∈ wsX30, w ∈ wsX3_seen := by decide +kernel
theorem hdVX3_seen : yX3_seen.cls = RX3 ∧ yX3_seen.cls ≠ "java/lang/invoke/MethodHandle" ∧ yX3_seen.cls ≠ "java/lang/invoke/VarHandle" ∧ (parseMethodDescriptor yX3_seen.desc).map (fun d => d.parameters.length) = some 2 := by decide +kernel
set_option maxHeartbeats 4000000 in
set_option maxRecDepth 100000 in
theorem ctX3_seen {l : Launch} {D : va_G} {cI cJ cQ : ClassId} (ad : Nat → Nat) (yn : LandT) (ym : LandT) (yk : LandT) (yl : (Nat → Int32)) (yt : Int32) (yd : Int32) (yu : (Nat → Int32)) (ye : (Nat → Int32)) (yv : (Nat → Int32)) (yo : (Nat → Int64)) (y0 : (Nat → Int32)) (y1 : (Nat → Int32)) (yc : Int32) (yh : Int32) (v1 : Int32) (v2 : Int32) {res : Int32 × (Nat → Int32)} (h : fX3_seen v1 v2 yn ye = some res) : CtI l D cI cJ cQ yX3_seen wsX3_seen rmX3_seen [.ref (ad 0), .int v1, .int v2] (wMn cI cJ cQ ad yn ym yk yl yt yd yu ye yv yo y0 y1 yc yh) res.1 (wMn cI cJ cQ ad yn ym yk yl yt yd yu res.2 yv yo y0 y1 yc yh) := by
  refine ctI_of .int (cc := cX3_seen) (maxL := 3) (by decide) rfl (Nat.le_of_ble_eq_true rfl) ?_
  intro p e s m args below meth c A Q ls F hK hA RET hH hl
  obtain ⟨hx, hb, hml, hown, hts⟩ := id F
  have hl : lv_has ls 3 [(0, .ref (ad 0)), (1, .int v1), (2, .int v2)] := hl
  have hf : wpO (fX3_seen v1 v2 yn ye) (fun v => v = res) := ⟨_, h, rfl⟩
  obtain ⟨H, eH⟩ : ∃ H, H = s.heap := ⟨_, rfl⟩
  obtain ⟨locs, eL⟩ : ∃ locs : List Loc, locs = [] := ⟨_, rfl⟩
  have hH : Hs D A s.heap (wMn cI cJ cQ ad yn ym yk yl yt yd yu ye yv yo y0 y1 yc yh) H locs := by rw [eH, eL]; exact hH
  rw [← eL]
  suffices hgo : W p l e rmX3_seen s m args below meth c H locs 0 0 Q (F0 m 0 ls []) by rw [eH] at hgo; exact hgo
  clear eH eL
  refine lv_iload_n hx hb dX3_seen_0 rfl (lv_at hl 1 rfl) ?_
  obtain ⟨x1, hcl, hf⟩ := wp_b hf
  refine k_Si F hK hH hA hl.1 ⟨Nat.zero_le _, Nat.zero_le _⟩ [] [.int v1] [] (ctX3_isBranch v1 hcl) (va_cwS 1 hts gX3_seen_X3_isBranch rfl rfl rfl hdSX3_isBranch ⟨Nat.le_of_ble_eq_true rfl, Nat.le_of_ble_eq_true rfl⟩) dX3_seen_1 rfl rfl (Nat.le_of_ble_eq_true rfl) rfl rfl (by decide) (fun H locs hH => ?_)
  have hH : Hs D A s.heap (wMn cI cJ cQ ad yn ym yk yl yt yd yu ye yv yo y0 y1 yc yh) H locs := hH
  refine lv_if_ne (tgt := 13) hx hb dX3_seen_4 (by decide) (fun hc => ?_) (fun hc => ?_)
  · have hf := wp_f hc hf
    refine lv_iload_n hx hb dX3_seen_13 rfl (lv_at hl 2 rfl) ?_
    by_cases hc0 : v2 = 0
    · have hf := wp_t hc0 hf
      refine lv_tableIn (tgt := 48) hx hb dX3_seen_14 (by rw [hc0]; decide) (by rw [hc0]; decide) (by rw [hc0]; try rfl) (by decide) ?_
      refine lv_aload_n hx hb dX3_seen_48 rfl (lv_at hl 0 rfl) ?_
      refine k_get (v := .ref (ad 1)) F hK hH 0 inX3_seen_X3 0 mbX3_seen_f10 dX3_seen_49 rfl rfl (by decide) rfl ?_
      refine lv_iload_n hx hb dX3_seen_52 rfl (lv_at hl 1 rfl) ?_
      obtain ⟨x2, hcl, hf⟩ := wp_b hf
      refine k_Vi F hK hH hA hl.1 ⟨Nat.zero_le _, Nat.zero_le _⟩ [1, 2, 3, 4, 5, 6, 7, 8] [.int v1] [] (ctX0_sightFrom (fun k => ad (1 + k)) yn v1 hcl) (cwV 1 hts gX3_seen_X0_sightFrom rfl rfl rfl hdVX0_sightFrom ⟨Nat.le_of_ble_eq_true rfl, Nat.le_of_ble_eq_true rfl⟩) dX3_seen_53 1 rfl rfl rfl rfl rfl (Nat.le_of_ble_eq_true rfl) rfl rfl (by decide) (fun H locs hH => ?_)
      have hH : Hs D A s.heap (wMn cI cJ cQ ad yn ym yk yl yt yd yu ye yv yo y0 y1 yc yh) H locs := hH
      have hrs := wp_s hf
      subst hrs
      exact RET H locs ls 56 dX3_seen_56 rfl hH
    · have hf := wp_f hc0 hf
      by_cases hc1 : v2 = 1
      · have hf := wp_t hc1 hf
        refine lv_tableIn (tgt := 57) hx hb dX3_seen_14 (by rw [hc1]; decide) (by rw [hc1]; decide) (by rw [hc1]; try rfl) (by decide) ?_
        refine lv_aload_n hx hb dX3_seen_57 rfl (lv_at hl 0 rfl) ?_
        refine k_get (v := .ref (ad 1)) F hK hH 0 inX3_seen_X3 0 mbX3_seen_f10 dX3_seen_58 rfl rfl (by decide) rfl ?_
        refine lv_iload_n hx hb dX3_seen_61 rfl (lv_at hl 1 rfl) ?_
        obtain ⟨x3, hcl, hf⟩ := wp_b hf
        refine k_Vi F hK hH hA hl.1 ⟨Nat.zero_le _, Nat.zero_le _⟩ [1, 2, 3, 4, 5, 6, 7, 8] [.int v1] [] (ctX0_verdictFrom (fun k => ad (1 + k)) yn v1 hcl) (cwV 1 hts gX3_seen_X0_verdictFrom rfl rfl rfl hdVX0_verdictFrom ⟨Nat.le_of_ble_eq_true rfl, Nat.le_of_ble_eq_true rfl⟩) dX3_seen_62 1 rfl rfl rfl rfl rfl (Nat.le_of_ble_eq_true rfl) rfl rfl (by decide) (fun H locs hH => ?_)
        have hH : Hs D A s.heap (wMn cI cJ cQ ad yn ym yk yl yt yd yu ye yv yo y0 y1 yc yh) H locs := hH
        have hrs := wp_s hf
        subst hrs
        exact RET H locs ls 65 dX3_seen_65 rfl hH
      · have hf := wp_f hc1 hf
        by_cases hc2 : v2 = 2
        · have hf := wp_t hc2 hf
          refine lv_tableIn (tgt := 66) hx hb dX3_seen_14 (by rw [hc2]; decide) (by rw [hc2]; decide) (by rw [hc2]; try rfl) (by decide) ?_
          refine lv_aload_n hx hb dX3_seen_66 rfl (lv_at hl 0 rfl) ?_
          refine k_get (v := .ref (ad 1)) F hK hH 0 inX3_seen_X3 0 mbX3_seen_f10 dX3_seen_67 rfl rfl (by decide) rfl ?_
          refine lv_aload_n hx hb dX3_seen_70 rfl (lv_at hl 0 rfl) ?_
          refine k_get (v := .ref (ad 1)) F hK hH 0 inX3_seen_X3 0 mbX3_seen_f10 dX3_seen_71 rfl rfl (by decide) rfl ?_
          refine lv_iload_n hx hb dX3_seen_74 rfl (lv_at hl 1 rfl) ?_
          obtain ⟨x4, hcl, hf⟩ := wp_b hf
          refine k_Vi F hK hH hA hl.1 ⟨Nat.zero_le _, Nat.zero_le _⟩ [1, 2, 3, 4, 5, 6, 7, 8] [.int v1] [.ref (ad 1)] (ctX0_sightFrom (fun k => ad (1 + k)) yn v1 hcl) (cwV 1 hts gX3_seen_X0_sightFrom rfl rfl rfl hdVX0_sightFrom ⟨Nat.le_of_ble_eq_true rfl, Nat.le_of_ble_eq_true rfl⟩) dX3_seen_75 1 rfl rfl rfl rfl rfl (Nat.le_of_ble_eq_true rfl) rfl rfl (by decide) (fun H locs hH => ?_)
          have hH : Hs D A s.heap (wMn cI cJ cQ ad yn ym yk yl yt yd yu ye yv yo y0 y1 yc yh) H locs := hH
          obtain ⟨x5, hcl, hf⟩ := wp_b hf
          refine k_Vi F hK hH hA hl.1 ⟨Nat.zero_le _, Nat.zero_le _⟩ [1, 2, 3, 4, 5, 6, 7, 8] [.int x4] [] (ctX0_deciderIn (fun k => ad (1 + k)) yn x4 hcl) (cwV 1 hts gX3_seen_X0_deciderIn rfl rfl rfl hdVX0_deciderIn ⟨Nat.le_of_ble_eq_true rfl, Nat.le_of_ble_eq_true rfl⟩) dX3_seen_78 1 rfl rfl rfl rfl rfl (Nat.le_of_ble_eq_true rfl) rfl rfl (by decide) (fun H locs hH => ?_)
          have hH : Hs D A s.heap (wMn cI cJ cQ ad yn ym yk yl yt yd yu ye yv yo y0 y1 yc yh) H locs := hH
          have hrs := wp_s hf
          subst hrs
          exact RET H locs ls 81 dX3_seen_81 rfl hH
        · have hf := wp_f hc2 hf
          by_cases hc3 : v2 = 3
          · have hf := wp_t hc3 hf
            refine lv_tableIn (tgt := 82) hx hb dX3_seen_14 (by rw [hc3]; decide) (by rw [hc3]; decide) (by rw [hc3]; try rfl) (by decide) ?_
            refine lv_aload_n hx hb dX3_seen_82 rfl (lv_at hl 0 rfl) ?_
            refine k_get (v := .ref (ad 1)) F hK hH 0 inX3_seen_X3 0 mbX3_seen_f10 dX3_seen_83 rfl rfl (by decide) rfl ?_
            refine lv_aload_n hx hb dX3_seen_86 rfl (lv_at hl 0 rfl) ?_
            refine k_get (v := .ref (ad 1)) F hK hH 0 inX3_seen_X3 0 mbX3_seen_f10 dX3_seen_87 rfl rfl (by decide) rfl ?_
            refine lv_iload_n hx hb dX3_seen_90 rfl (lv_at hl 1 rfl) ?_
            obtain ⟨x6, hcl, hf⟩ := wp_b hf
            refine k_Vi F hK hH hA hl.1 ⟨Nat.zero_le _, Nat.zero_le _⟩ [1, 2, 3, 4, 5, 6, 7, 8] [.int v1] [.ref (ad 1)] (ctX0_sightFrom (fun k => ad (1 + k)) yn v1 hcl) (cwV 1 hts gX3_seen_X0_sightFrom rfl rfl rfl hdVX0_sightFrom ⟨Nat.le_of_ble_eq_true rfl, Nat.le_of_ble_eq_true rfl⟩) dX3_seen_91 1 rfl rfl rfl rfl rfl (Nat.le_of_ble_eq_true rfl) rfl rfl (by decide) (fun H locs hH => ?_)
            have hH : Hs D A s.heap (wMn cI cJ cQ ad yn ym yk yl yt yd yu ye yv yo y0 y1 yc yh) H locs := hH
            obtain ⟨x7, hcl, hf⟩ := wp_b hf
            refine k_Vi F hK hH hA hl.1 ⟨Nat.zero_le _, Nat.zero_le _⟩ [1, 2, 3, 4, 5, 6, 7, 8] [.int x6] [] (ctX0_farthestIn (fun k => ad (1 + k)) yn x6 hcl) (cwV 1 hts gX3_seen_X0_farthestIn rfl rfl rfl hdVX0_farthestIn ⟨Nat.le_of_ble_eq_true rfl, Nat.le_of_ble_eq_true rfl⟩) dX3_seen_94 1 rfl rfl rfl rfl rfl (Nat.le_of_ble_eq_true rfl) rfl rfl (by decide) (fun H locs hH => ?_)
            have hH : Hs D A s.heap (wMn cI cJ cQ ad yn ym yk yl yt yd yu ye yv yo y0 y1 yc yh) H locs := hH
            have hrs := wp_s hf
            subst hrs
            exact RET H locs ls 97 dX3_seen_97 rfl hH
          · have hf := wp_f hc3 hf
            by_cases hc4 : v2 = 4
            · have hf := wp_t hc4 hf
              refine lv_tableIn (tgt := 98) hx hb dX3_seen_14 (by rw [hc4]; decide) (by rw [hc4]; decide) (by rw [hc4]; try rfl) (by decide) ?_
              refine lv_aload_n hx hb dX3_seen_98 rfl (lv_at hl 0 rfl) ?_
              refine k_get (v := .ref (ad 1)) F hK hH 0 inX3_seen_X3 0 mbX3_seen_f10 dX3_seen_99 rfl rfl (by decide) rfl ?_
              refine lv_iload_n hx hb dX3_seen_102 rfl (lv_at hl 1 rfl) ?_
              obtain ⟨x8, hcl, hf⟩ := wp_b hf
              refine k_Vi F hK hH hA hl.1 ⟨Nat.zero_le _, Nat.zero_le _⟩ [1, 2, 3, 4, 5, 6, 7, 8] [.int v1] [] (ctX0_blindFrom (fun k => ad (1 + k)) yn v1 hcl) (cwV 1 hts gX3_seen_X0_blindFrom rfl rfl rfl hdVX0_blindFrom ⟨Nat.le_of_ble_eq_true rfl, Nat.le_of_ble_eq_true rfl⟩) dX3_seen_103 1 rfl rfl rfl rfl rfl (Nat.le_of_ble_eq_true rfl) rfl rfl (by decide) (fun H locs hH => ?_)
              have hH : Hs D A s.heap (wMn cI cJ cQ ad yn ym yk yl yt yd yu ye yv yo y0 y1 yc yh) H locs := hH
              have hrs := wp_s hf
              subst hrs
              exact RET H locs ls 106 dX3_seen_106 rfl hH
            · have hf := wp_f hc4 hf
              have hs0 := sw_ne hc0 (show (0 : Int32).toInt = 0 from rfl)
              have hs1 := sw_ne hc1 (show (1 : Int32).toInt = 1 from rfl)
              have hs2 := sw_ne hc2 (show (2 : Int32).toInt = 2 from rfl)
              have hs3 := sw_ne hc3 (show (3 : Int32).toInt = 3 from rfl)
              have hs4 := sw_ne hc4 (show (4 : Int32).toInt = 4 from rfl)
              refine lv_tableOut (tgt := 107) hx hb dX3_seen_14 (by omega) (by decide) ?_
              refine lv_aload_n hx hb dX3_seen_107 rfl (lv_at hl 0 rfl) ?_
              refine lv_bipush (v := (-2)) hx hb dX3_seen_108 (by decide) ?_
              obtain ⟨x9, hcl, hf⟩ := wp_b hf
              refine k_Vi0 F hK hH hA hl.1 ⟨Nat.zero_le _, Nat.zero_le _⟩ [.int (-2)] [] (ctX3_refuse ad yn ym yk yl yt yd yu ye yv yo y0 y1 yc yh (-2) hcl) (cwV 1 hts gX3_seen_X3_refuse rfl rfl rfl hdVX3_refuse ⟨Nat.le_of_ble_eq_true rfl, Nat.le_of_ble_eq_true rfl⟩) dX3_seen_110 0 rfl rfl rfl rfl rfl (Nat.le_of_ble_eq_true rfl) rfl (fun H locs hH => ?_)
              have hH : Hs D A s.heap (wMn cI cJ cQ ad yn ym yk yl yt yd yu x9.2 yv yo y0 y1 yc yh) H locs := hH
              refine W.eq (g2 := F0 m 113 ls [.int x9.1]) rfl ?_
              have hrs := wp_s hf
              subst hrs
              exact RET H locs ls 113 dX3_seen_113 rfl hH
  · have hf := wp_t hc hf
    refine lv_aload_n hx hb dX3_seen_7 rfl (lv_at hl 0 rfl) ?_
    refine lv_iconst (v := (-1)) hx hb dX3_seen_8 (by decide) ?_
    obtain ⟨x10, hcl, hf⟩ := wp_b hf
    refine k_Vi0 F hK hH hA hl.1 ⟨Nat.zero_le _, Nat.zero_le _⟩ [.int (-1)] [] (ctX3_refuse ad yn ym yk yl yt yd yu ye yv yo y0 y1 yc yh (-1) hcl) (cwV 1 hts gX3_seen_X3_refuse rfl rfl rfl hdVX3_refuse ⟨Nat.le_of_ble_eq_true rfl, Nat.le_of_ble_eq_true rfl⟩) dX3_seen_9 0 rfl rfl rfl rfl rfl (Nat.le_of_ble_eq_true rfl) rfl (fun H locs hH => ?_)
    have hH : Hs D A s.heap (wMn cI cJ cQ ad yn ym yk yl yt yd yu x10.2 yv yo y0 y1 yc yh) H locs := hH
    refine W.eq (g2 := F0 m 12 ls [.int x10.1]) rfl ?_
    have hrs := wp_s hf
    subst hrs
    exact RET H locs ls 12 dX3_seen_12 rfl hH

def fX3_inMind (yn : LandT) (ym : LandT) : Option (LandT) :=
  Option.bind (fX0_copyFrom ym yn) fun x1 =>
  some x1

def rmX3_inMind : Room := { frames := 2, cells := 0, slots := 0, locals := 81 }
theorem mbX3_inMind_f16 : Cond.fieldLink RX3 16 (TX3 1).1 (TX3 1).2.1 (TX3 1).2.2.1 ∈ wsX3_inMind := by decide +kernel
theorem inX3_inMind_X3 : ∀ w ∈ wsX30, w ∈ wsX3_inMind := by decide +kernel
theorem mbX3_inMind_f10 : Cond.fieldLink RX3 10 (TX3 0).1 (TX3 0).2.1 (TX3 0).2.2.1 ∈ wsX3_inMind := by decide +kernel
theorem hdVX3_inMind : yX3_inMind.cls = RX3 ∧ yX3_inMind.cls ≠ "java/lang/invoke/MethodHandle" ∧ yX3_inMind.cls ≠ "java/lang/invoke/VarHandle" ∧ (parseMethodDescriptor yX3_inMind.desc).map (fun d => d.parameters.length) = some 0 := by decide +kernel
set_option maxHeartbeats 4000000 in
set_option maxRecDepth 100000 in
theorem ctX3_inMind {l : Launch} {D : va_G} {cI cJ cQ : ClassId} (ad : Nat → Nat) (yn : LandT) (ym : LandT) (yk : LandT) (yl : (Nat → Int32)) (yt : Int32) (yd : Int32) (yu : (Nat → Int32)) (ye : (Nat → Int32)) (yv : (Nat → Int32)) (yo : (Nat → Int64)) (y0 : (Nat → Int32)) (y1 : (Nat → Int32)) (yc : Int32) (yh : Int32)  {res : LandT} (h : fX3_inMind yn ym = some res) : CtR l D cI cJ cQ yX3_inMind wsX3_inMind rmX3_inMind [.ref (ad 0)] (wMn cI cJ cQ ad yn ym yk yl yt yd yu ye yv yo y0 y1 yc yh) (ad 9) (wMn cI cJ cQ ad yn res yk yl yt yd yu ye yv yo y0 y1 yc yh) := by
  refine ctR_of (.object "LawFromTheTree$Land") (Or.inl ⟨_, rfl⟩) (cc := cX3_inMind) (maxL := 1) (by decide) rfl (Nat.le_of_ble_eq_true rfl) ?_
  intro p e s m args below meth c A Q ls F hK hA RET hH hl
  obtain ⟨hx, hb, hml, hown, hts⟩ := id F
  have hl : lv_has ls 1 [(0, .ref (ad 0))] := hl
  have hf : wpO (fX3_inMind yn ym) (fun v => v = res) := ⟨_, h, rfl⟩
  obtain ⟨H, eH⟩ : ∃ H, H = s.heap := ⟨_, rfl⟩
  obtain ⟨locs, eL⟩ : ∃ locs : List Loc, locs = [] := ⟨_, rfl⟩
  have hH : Hs D A s.heap (wMn cI cJ cQ ad yn ym yk yl yt yd yu ye yv yo y0 y1 yc yh) H locs := by rw [eH, eL]; exact hH
  rw [← eL]
  suffices hgo : W p l e rmX3_inMind s m args below meth c H locs 0 0 Q (F0 m 0 ls []) by rw [eH] at hgo; exact hgo
  clear eH eL
  refine lv_aload_n hx hb dX3_inMind_0 rfl (lv_at hl 0 rfl) ?_
  refine k_get (v := .ref (ad 9)) F hK hH 0 inX3_inMind_X3 1 mbX3_inMind_f16 dX3_inMind_1 rfl rfl (by decide) rfl ?_
  refine lv_aload_n hx hb dX3_inMind_4 rfl (lv_at hl 0 rfl) ?_
  refine k_get (v := .ref (ad 1)) F hK hH 0 inX3_inMind_X3 0 mbX3_inMind_f10 dX3_inMind_5 rfl rfl (by decide) rfl ?_
  obtain ⟨x1, hcl, hf⟩ := wp_b hf
  refine k_Vv F hK hH hA hl.1 ⟨Nat.zero_le _, Nat.zero_le _⟩ [9, 10, 11, 12, 13, 14, 15, 16, 1, 2, 3, 4, 5, 6, 7, 8] [.ref (ad 1)] [] (ctX0_copyFrom (fun k => ad (9 + k)) (fun k => ad (1 + k)) ym yn hcl) (cwV 1 hts gX3_inMind_X0_copyFrom rfl rfl rfl hdVX0_copyFrom ⟨Nat.le_of_ble_eq_true rfl, Nat.le_of_ble_eq_true rfl⟩) dX3_inMind_8 9 rfl rfl rfl rfl rfl (Nat.le_of_ble_eq_true rfl) rfl rfl (by decide) (fun H locs hH => ?_)
  have hH : Hs D A s.heap (wMn cI cJ cQ ad yn x1 yk yl yt yd yu ye yv yo y0 y1 yc yh) H locs := hH
  refine lv_aload_n hx hb dX3_inMind_11 rfl (lv_at hl 0 rfl) ?_
  refine k_get (v := .ref (ad 9)) F hK hH 0 inX3_inMind_X3 1 mbX3_inMind_f16 dX3_inMind_12 rfl rfl (by decide) rfl ?_
  have hrs := wp_s hf
  subst hrs
  exact RET H locs ls 15 dX3_inMind_15 hH

def fX3_inMindBehind (v1 : Int32) (yn : LandT) (ym : LandT) : Option (LandT) :=
  Option.bind (fX3_inMind yn ym) fun x1 =>
  Option.bind (fX0_passHours v1 x1) fun x2 =>
  some x2

def rmX3_inMindBehind : Room := { frames := 3, cells := 0, slots := 0, locals := 101 }
theorem hdVX3_inMindBehind : yX3_inMindBehind.cls = RX3 ∧ yX3_inMindBehind.cls ≠ "java/lang/invoke/MethodHandle" ∧ yX3_inMindBehind.cls ≠ "java/lang/invoke/VarHandle" ∧ (parseMethodDescriptor yX3_inMindBehind.desc).map (fun d => d.parameters.length) = some 1 := by decide +kernel
set_option maxHeartbeats 4000000 in
set_option maxRecDepth 100000 in
theorem ctX3_inMindBehind {l : Launch} {D : va_G} {cI cJ cQ : ClassId} (ad : Nat → Nat) (yn : LandT) (ym : LandT) (yk : LandT) (yl : (Nat → Int32)) (yt : Int32) (yd : Int32) (yu : (Nat → Int32)) (ye : (Nat → Int32)) (yv : (Nat → Int32)) (yo : (Nat → Int64)) (y0 : (Nat → Int32)) (y1 : (Nat → Int32)) (yc : Int32) (yh : Int32) (v1 : Int32) {res : LandT} (h : fX3_inMindBehind v1 yn ym = some res) : CtR l D cI cJ cQ yX3_inMindBehind wsX3_inMindBehind rmX3_inMindBehind [.ref (ad 0), .int v1] (wMn cI cJ cQ ad yn ym yk yl yt yd yu ye yv yo y0 y1 yc yh) (ad 9) (wMn cI cJ cQ ad yn res yk yl yt yd yu ye yv yo y0 y1 yc yh) := by
  refine ctR_of (.object "LawFromTheTree$Land") (Or.inl ⟨_, rfl⟩) (cc := cX3_inMindBehind) (maxL := 3) (by decide) rfl (Nat.le_of_ble_eq_true rfl) ?_
  intro p e s m args below meth c A Q ls F hK hA RET hH hl
  obtain ⟨hx, hb, hml, hown, hts⟩ := id F
  have hl : lv_has ls 3 [(0, .ref (ad 0)), (1, .int v1)] := hl
  have hf : wpO (fX3_inMindBehind v1 yn ym) (fun v => v = res) := ⟨_, h, rfl⟩
  obtain ⟨H, eH⟩ : ∃ H, H = s.heap := ⟨_, rfl⟩
  obtain ⟨locs, eL⟩ : ∃ locs : List Loc, locs = [] := ⟨_, rfl⟩
  have hH : Hs D A s.heap (wMn cI cJ cQ ad yn ym yk yl yt yd yu ye yv yo y0 y1 yc yh) H locs := by rw [eH, eL]; exact hH
  rw [← eL]
  suffices hgo : W p l e rmX3_inMindBehind s m args below meth c H locs 0 0 Q (F0 m 0 ls []) by rw [eH] at hgo; exact hgo
  clear eH eL
  refine lv_aload_n hx hb dX3_inMindBehind_0 rfl (lv_at hl 0 rfl) ?_
  obtain ⟨x1, hcl, hf⟩ := wp_b hf
  refine k_Vr0 F hK hH hA hl.1 ⟨Nat.zero_le _, Nat.zero_le _⟩ [] [] (ctX3_inMind ad yn ym yk yl yt yd yu ye yv yo y0 y1 yc yh hcl) (cwV 0 hts gX3_inMindBehind_X3_inMind rfl rfl rfl hdVX3_inMind ⟨Nat.le_of_ble_eq_true rfl, Nat.le_of_ble_eq_true rfl⟩) dX3_inMindBehind_1 0 rfl rfl rfl rfl rfl (Nat.le_of_ble_eq_true rfl) rfl (fun H locs hH => ?_)
  have hH : Hs D A s.heap (wMn cI cJ cQ ad yn x1 yk yl yt yd yu ye yv yo y0 y1 yc yh) H locs := hH
  refine W.eq (g2 := F0 m 4 ls [.ref (ad 9)]) rfl ?_
  refine lv_astore_n (lv' := [(2, .ref (ad 9)), (0, .ref (ad 0)), (1, .int v1)]) hx hb dX3_inMindBehind_4 rfl hl (by decide) rfl (fun ls hl => ?_)
  refine lv_aload_n hx hb dX3_inMindBehind_5 rfl (lv_at hl 0 rfl) ?_
  refine lv_iload_n hx hb dX3_inMindBehind_6 rfl (lv_at hl 2 rfl) ?_
  obtain ⟨x2, hcl, hf⟩ := wp_b hf
  refine k_Vv F hK hH hA hl.1 ⟨Nat.zero_le _, Nat.zero_le _⟩ [9, 10, 11, 12, 13, 14, 15, 16] [.int v1] [] (ctX0_passHours (fun k => ad (9 + k)) x1 v1 hcl) (cwV 1 hts gX3_inMindBehind_X0_passHours rfl rfl rfl hdVX0_passHours ⟨Nat.le_of_ble_eq_true rfl, Nat.le_of_ble_eq_true rfl⟩) dX3_inMindBehind_7 9 rfl rfl rfl rfl rfl (Nat.le_of_ble_eq_true rfl) rfl rfl (by decide) (fun H locs hH => ?_)
  have hH : Hs D A s.heap (wMn cI cJ cQ ad yn x2 yk yl yt yd yu ye yv yo y0 y1 yc yh) H locs := hH
  refine lv_aload_n hx hb dX3_inMindBehind_10 rfl (lv_at hl 0 rfl) ?_
  have hrs := wp_s hf
  subst hrs
  exact RET H locs ls 11 dX3_inMindBehind_11 hH

def fX3_thingThen (v1 : Int32) (v2 : Int32) (yn : LandT) (ym : LandT) (ye : (Nat → Int32)) : Option (Int32 × LandT × (Nat → Int32)) :=
  Option.bind (fX0_hasThing v1 yn) fun x1 =>
  if x1 = 0 then
    Option.bind (fX3_refuse (-1) ye) fun x6 =>
    some (x6.1, ym, x6.2)
  else
    Option.bind (fX3_isWithin v2 0 60) fun x2 =>
    if x2 = 0 then
      Option.bind (if (0 : Int32) ≤ v2 then
          some (-6)
        else
          some (-4)) fun (t4 : Int32) =>
      Option.bind (fX3_refuse t4 ye) fun x5 =>
      some (x5.1, ym, x5.2)
    else
      Option.bind (fX3_inMindBehind v2 yn ym) fun x3 =>
      if ob v1 7 then none else
      some ((gP x3) (Int32.toNatClampNeg v1), x3, ye)

def rmX3_thingThen : Room := { frames := 4, cells := 0, slots := 0, locals := 123 }
theorem mbX3_thingThen_f10 : Cond.fieldLink RX3 10 (TX3 0).1 (TX3 0).2.1 (TX3 0).2.2.1 ∈ wsX3_thingThen := by decide +kernel
theorem inX3_thingThen_X3 : ∀ w ∈ wsX30, w ∈ wsX3_thingThen := by decide +kernel
theorem mbX3_thingThen_f98 : Cond.fieldLink RX3 98 (TX0 4).1 (TX0 4).2.1 (TX0 4).2.2.1 ∈ wsX3_thingThen := by decide +kernel
theorem inX3_thingThen_X0 : ∀ w ∈ wsX00, w ∈ wsX3_thingThen := by decide +kernel
theorem hdVX3_thingThen : yX3_thingThen.cls = RX3 ∧ yX3_thingThen.cls ≠ "java/lang/invoke/MethodHandle" ∧ yX3_thingThen.cls ≠ "java/lang/invoke/VarHandle" ∧ (parseMethodDescriptor yX3_thingThen.desc).map (fun d => d.parameters.length) = some 2 := by decide +kernel
set_option maxHeartbeats 4000000 in
set_option maxRecDepth 100000 in
theorem ctX3_thingThen {l : Launch} {D : va_G} {cI cJ cQ : ClassId} (ad : Nat → Nat) (yn : LandT) (ym : LandT) (yk : LandT) (yl : (Nat → Int32)) (yt : Int32) (yd : Int32) (yu : (Nat → Int32)) (ye : (Nat → Int32)) (yv : (Nat → Int32)) (yo : (Nat → Int64)) (y0 : (Nat → Int32)) (y1 : (Nat → Int32)) (yc : Int32) (yh : Int32) (v1 : Int32) (v2 : Int32) {res : Int32 × LandT × (Nat → Int32)} (h : fX3_thingThen v1 v2 yn ym ye = some res) : CtI l D cI cJ cQ yX3_thingThen wsX3_thingThen rmX3_thingThen [.ref (ad 0), .int v1, .int v2] (wMn cI cJ cQ ad yn ym yk yl yt yd yu ye yv yo y0 y1 yc yh) res.1 (wMn cI cJ cQ ad yn res.2.1 yk yl yt yd yu res.2.2 yv yo y0 y1 yc yh) := by
  refine ctI_of .int (cc := cX3_thingThen) (maxL := 3) (by decide) rfl (Nat.le_of_ble_eq_true rfl) ?_
  intro p e s m args below meth c A Q ls F hK hA RET hH hl
  obtain ⟨hx, hb, hml, hown, hts⟩ := id F
  have hl : lv_has ls 3 [(0, .ref (ad 0)), (1, .int v1), (2, .int v2)] := hl
  have hf : wpO (fX3_thingThen v1 v2 yn ym ye) (fun v => v = res) := ⟨_, h, rfl⟩
  obtain ⟨H, eH⟩ : ∃ H, H = s.heap := ⟨_, rfl⟩
  obtain ⟨locs, eL⟩ : ∃ locs : List Loc, locs = [] := ⟨_, rfl⟩
  have hH : Hs D A s.heap (wMn cI cJ cQ ad yn ym yk yl yt yd yu ye yv yo y0 y1 yc yh) H locs := by rw [eH, eL]; exact hH
  rw [← eL]
  suffices hgo : W p l e rmX3_thingThen s m args below meth c H locs 0 0 Q (F0 m 0 ls []) by rw [eH] at hgo; exact hgo
  clear eH eL
  refine lv_aload_n hx hb dX3_thingThen_0 rfl (lv_at hl 0 rfl) ?_
  refine k_get (v := .ref (ad 1)) F hK hH 0 inX3_thingThen_X3 0 mbX3_thingThen_f10 dX3_thingThen_1 rfl rfl (by decide) rfl ?_
  refine lv_iload_n hx hb dX3_thingThen_4 rfl (lv_at hl 1 rfl) ?_
  obtain ⟨x1, hcl, hf⟩ := wp_b hf
  refine k_Vi F hK hH hA hl.1 ⟨Nat.zero_le _, Nat.zero_le _⟩ [1, 2, 3, 4, 5, 6, 7, 8] [.int v1] [] (ctX0_hasThing (fun k => ad (1 + k)) yn v1 hcl) (cwV 1 hts gX3_thingThen_X0_hasThing rfl rfl rfl hdVX0_hasThing ⟨Nat.le_of_ble_eq_true rfl, Nat.le_of_ble_eq_true rfl⟩) dX3_thingThen_5 1 rfl rfl rfl rfl rfl (Nat.le_of_ble_eq_true rfl) rfl rfl (by decide) (fun H locs hH => ?_)
  have hH : Hs D A s.heap (wMn cI cJ cQ ad yn ym yk yl yt yd yu ye yv yo y0 y1 yc yh) H locs := hH
  refine lv_if_ne (tgt := 17) hx hb dX3_thingThen_8 (by decide) (fun hc => ?_) (fun hc => ?_)
  · have hf := wp_f hc hf
    refine lv_iload_n hx hb dX3_thingThen_17 rfl (lv_at hl 2 rfl) ?_
    refine lv_iconst (v := 0) hx hb dX3_thingThen_18 (by decide) ?_
    refine lv_bipush (v := 60) hx hb dX3_thingThen_19 (by decide) ?_
    obtain ⟨x2, hcl, hf⟩ := wp_b hf
    refine k_Si F hK hH hA hl.1 ⟨Nat.zero_le _, Nat.zero_le _⟩ [] [.int v2, .int 0, .int 60] [] (ctX3_isWithin v2 0 60 hcl) (va_cwS 3 hts gX3_thingThen_X3_isWithin rfl rfl rfl hdSX3_isWithin ⟨Nat.le_of_ble_eq_true rfl, Nat.le_of_ble_eq_true rfl⟩) dX3_thingThen_21 rfl rfl (Nat.le_of_ble_eq_true rfl) rfl rfl (by decide) (fun H locs hH => ?_)
    have hH : Hs D A s.heap (wMn cI cJ cQ ad yn ym yk yl yt yd yu ye yv yo y0 y1 yc yh) H locs := hH
    refine lv_if_ne (tgt := 43) hx hb dX3_thingThen_24 (by decide) (fun hc => ?_) (fun hc => ?_)
    · have hf := wp_f hc hf
      refine lv_aload_n hx hb dX3_thingThen_43 rfl (lv_at hl 0 rfl) ?_
      refine lv_iload_n hx hb dX3_thingThen_44 rfl (lv_at hl 2 rfl) ?_
      obtain ⟨x3, hcl, hf⟩ := wp_b hf
      refine k_Vr0 F hK hH hA hl.1 ⟨Nat.zero_le _, Nat.zero_le _⟩ [.int v2] [] (ctX3_inMindBehind ad yn ym yk yl yt yd yu ye yv yo y0 y1 yc yh v2 hcl) (cwV 1 hts gX3_thingThen_X3_inMindBehind rfl rfl rfl hdVX3_inMindBehind ⟨Nat.le_of_ble_eq_true rfl, Nat.le_of_ble_eq_true rfl⟩) dX3_thingThen_45 0 rfl rfl rfl rfl rfl (Nat.le_of_ble_eq_true rfl) rfl (fun H locs hH => ?_)
      have hH : Hs D A s.heap (wMn cI cJ cQ ad yn x3 yk yl yt yd yu ye yv yo y0 y1 yc yh) H locs := hH
      refine W.eq (g2 := F0 m 48 ls [.ref (ad 9)]) rfl ?_
      refine k_get (v := .ref (ad 14)) F hK hH 9 inX3_thingThen_X0 4 mbX3_thingThen_f98 dX3_thingThen_48 rfl rfl (by decide) rfl ?_
      refine lv_iload_n hx hb dX3_thingThen_51 rfl (lv_at hl 1 rfl) ?_
      obtain ⟨hi, hf⟩ := wp_n hf
      refine k_iald (f := gP x3) (n := 7) F hK hH 14 dX3_thingThen_52 hi rfl ?_
      have hrs := wp_s hf
      subst hrs
      exact RET H locs ls 53 dX3_thingThen_53 rfl hH
    · have hf := wp_t hc hf
      refine lv_aload_n hx hb dX3_thingThen_27 rfl (lv_at hl 0 rfl) ?_
      refine lv_iload_n hx hb dX3_thingThen_28 rfl (lv_at hl 2 rfl) ?_
      refine join_ (α := Int32) (fun Φ => ∀ (t4 : Int32) (H : Heap) (locs : List Loc) (ls : Array Slot), Φ t4 → Hs D A s.heap (wMn cI cJ cQ ad yn ym yk yl yt yd yu ye yv yo y0 y1 yc yh) H locs → lv_has ls 3 [] → W p l e rmX3_thingThen s m args below meth c H locs 0 0 Q (F0 m 39 ls [.int t4, .ref (ad 0)])) (wp_bb hf) ?_ ?_
      · intro t4 H locs ls hf hH hl
        obtain ⟨x5, hcl, hf⟩ := wp_b hf
        refine k_Vi0 F hK hH hA hl.1 ⟨Nat.zero_le _, Nat.zero_le _⟩ [.int t4] [] (ctX3_refuse ad yn ym yk yl yt yd yu ye yv yo y0 y1 yc yh t4 hcl) (cwV 1 hts gX3_thingThen_X3_refuse rfl rfl rfl hdVX3_refuse ⟨Nat.le_of_ble_eq_true rfl, Nat.le_of_ble_eq_true rfl⟩) dX3_thingThen_39 0 rfl rfl rfl rfl rfl (Nat.le_of_ble_eq_true rfl) rfl (fun H locs hH => ?_)
        have hH : Hs D A s.heap (wMn cI cJ cQ ad yn ym yk yl yt yd yu x5.2 yv yo y0 y1 yc yh) H locs := hH
        refine W.eq (g2 := F0 m 42 ls [.int x5.1]) rfl ?_
        have hrs := wp_s hf
        subst hrs
        exact RET H locs ls 42 dX3_thingThen_42 rfl hH
      · intro Φ JJ hf
        refine lv_if_ge (tgt := 37) hx hb dX3_thingThen_29 (by decide) (fun hc => ?_) (fun hc => ?_)
        · have hf := wp_t hc hf
          refine lv_bipush (v := (-6)) hx hb dX3_thingThen_37 (by decide) ?_
          have hw := wp_s hf
          exact JJ _ _ _ _ hw hH (lv_sub hl [] rfl)
        · have hf := wp_f hc hf
          refine lv_bipush (v := (-4)) hx hb dX3_thingThen_32 (by decide) ?_
          refine lv_goto (tgt := 39) hx hb dX3_thingThen_34 (by decide) ?_
          have hw := wp_s hf
          exact JJ _ _ _ _ hw hH (lv_sub hl [] rfl)
  · have hf := wp_t hc hf
    refine lv_aload_n hx hb dX3_thingThen_11 rfl (lv_at hl 0 rfl) ?_
    refine lv_iconst (v := (-1)) hx hb dX3_thingThen_12 (by decide) ?_
    obtain ⟨x6, hcl, hf⟩ := wp_b hf
    refine k_Vi0 F hK hH hA hl.1 ⟨Nat.zero_le _, Nat.zero_le _⟩ [.int (-1)] [] (ctX3_refuse ad yn ym yk yl yt yd yu ye yv yo y0 y1 yc yh (-1) hcl) (cwV 1 hts gX3_thingThen_X3_refuse rfl rfl rfl hdVX3_refuse ⟨Nat.le_of_ble_eq_true rfl, Nat.le_of_ble_eq_true rfl⟩) dX3_thingThen_13 0 rfl rfl rfl rfl rfl (Nat.le_of_ble_eq_true rfl) rfl (fun H locs hH => ?_)
    have hH : Hs D A s.heap (wMn cI cJ cQ ad yn ym yk yl yt yd yu x6.2 yv yo y0 y1 yc yh) H locs := hH
    refine W.eq (g2 := F0 m 16 ls [.int x6.1]) rfl ?_
    have hrs := wp_s hf
    subst hrs
    exact RET H locs ls 16 dX3_thingThen_16 rfl hH

def fX3_seenThen (v1 : Int32) (v2 : Int32) (v3 : Int32) (yn : LandT) (ym : LandT) (ye : (Nat → Int32)) : Option (Int32 × LandT × (Nat → Int32)) :=
  Option.bind (fX3_isBranch v1) fun x1 =>
  if x1 = 0 then
    Option.bind (fX3_refuse (-1) ye) fun x10 =>
    some (x10.1, ym, x10.2)
  else
    Option.bind (fX3_isWithin v2 0 60) fun x2 =>
    if x2 = 0 then
      Option.bind (if (0 : Int32) ≤ v2 then
          some (-6)
        else
          some (-4)) fun (t8 : Int32) =>
      Option.bind (fX3_refuse t8 ye) fun x9 =>
      some (x9.1, ym, x9.2)
    else
      Option.bind (fX3_isEither v3) fun x3 =>
      if x3 = 0 then
        Option.bind (fX3_refuse (-2) ye) fun x7 =>
        some (x7.1, ym, x7.2)
      else
        Option.bind (fX3_inMindBehind v2 yn ym) fun x4 =>
        if v3 = 0 then
          Option.bind (fX0_sightFrom v1 x4) fun x6 =>
          some (x6, x4, ye)
        else
          Option.bind (fX0_verdictFrom v1 x4) fun x5 =>
          some (x5, x4, ye)

def rmX3_seenThen : Room := { frames := 5, cells := 0, slots := 0, locals := 123 }
theorem hdVX3_seenThen : yX3_seenThen.cls = RX3 ∧ yX3_seenThen.cls ≠ "java/lang/invoke/MethodHandle" ∧ yX3_seenThen.cls ≠ "java/lang/invoke/VarHandle" ∧ (parseMethodDescriptor yX3_seenThen.desc).map (fun d => d.parameters.length) = some 3 := by decide +kernel
set_option maxHeartbeats 4000000 in
set_option maxRecDepth 100000 in
theorem ctX3_seenThen {l : Launch} {D : va_G} {cI cJ cQ : ClassId} (ad : Nat → Nat) (yn : LandT) (ym : LandT) (yk : LandT) (yl : (Nat → Int32)) (yt : Int32) (yd : Int32) (yu : (Nat → Int32)) (ye : (Nat → Int32)) (yv : (Nat → Int32)) (yo : (Nat → Int64)) (y0 : (Nat → Int32)) (y1 : (Nat → Int32)) (yc : Int32) (yh : Int32) (v1 : Int32) (v2 : Int32) (v3 : Int32) {res : Int32 × LandT × (Nat → Int32)} (h : fX3_seenThen v1 v2 v3 yn ym ye = some res) : CtI l D cI cJ cQ yX3_seenThen wsX3_seenThen rmX3_seenThen [.ref (ad 0), .int v1, .int v2, .int v3] (wMn cI cJ cQ ad yn ym yk yl yt yd yu ye yv yo y0 y1 yc yh) res.1 (wMn cI cJ cQ ad yn res.2.1 yk yl yt yd yu res.2.2 yv yo y0 y1 yc yh) := by
  refine ctI_of .int (cc := cX3_seenThen) (maxL := 5) (by decide) rfl (Nat.le_of_ble_eq_true rfl) ?_
  intro p e s m args below meth c A Q ls F hK hA RET hH hl
  obtain ⟨hx, hb, hml, hown, hts⟩ := id F
  have hl : lv_has ls 5 [(0, .ref (ad 0)), (1, .int v1), (2, .int v2), (3, .int v3)] := hl
  have hf : wpO (fX3_seenThen v1 v2 v3 yn ym ye) (fun v => v = res) := ⟨_, h, rfl⟩
  obtain ⟨H, eH⟩ : ∃ H, H = s.heap := ⟨_, rfl⟩
  obtain ⟨locs, eL⟩ : ∃ locs : List Loc, locs = [] := ⟨_, rfl⟩
  have hH : Hs D A s.heap (wMn cI cJ cQ ad yn ym yk yl yt yd yu ye yv yo y0 y1 yc yh) H locs := by rw [eH, eL]; exact hH
  rw [← eL]
  suffices hgo : W p l e rmX3_seenThen s m args below meth c H locs 0 0 Q (F0 m 0 ls []) by rw [eH] at hgo; exact hgo
  clear eH eL
  refine lv_iload_n hx hb dX3_seenThen_0 rfl (lv_at hl 1 rfl) ?_
  obtain ⟨x1, hcl, hf⟩ := wp_b hf
  refine k_Si F hK hH hA hl.1 ⟨Nat.zero_le _, Nat.zero_le _⟩ [] [.int v1] [] (ctX3_isBranch v1 hcl) (va_cwS 1 hts gX3_seenThen_X3_isBranch rfl rfl rfl hdSX3_isBranch ⟨Nat.le_of_ble_eq_true rfl, Nat.le_of_ble_eq_true rfl⟩) dX3_seenThen_1 rfl rfl (Nat.le_of_ble_eq_true rfl) rfl rfl (by decide) (fun H locs hH => ?_)
  have hH : Hs D A s.heap (wMn cI cJ cQ ad yn ym yk yl yt yd yu ye yv yo y0 y1 yc yh) H locs := hH
  refine lv_if_ne (tgt := 13) hx hb dX3_seenThen_4 (by decide) (fun hc => ?_) (fun hc => ?_)
  · have hf := wp_f hc hf
    refine lv_iload_n hx hb dX3_seenThen_13 rfl (lv_at hl 2 rfl) ?_
    refine lv_iconst (v := 0) hx hb dX3_seenThen_14 (by decide) ?_
    refine lv_bipush (v := 60) hx hb dX3_seenThen_15 (by decide) ?_
    obtain ⟨x2, hcl, hf⟩ := wp_b hf
    refine k_Si F hK hH hA hl.1 ⟨Nat.zero_le _, Nat.zero_le _⟩ [] [.int v2, .int 0, .int 60] [] (ctX3_isWithin v2 0 60 hcl) (va_cwS 3 hts gX3_seenThen_X3_isWithin rfl rfl rfl hdSX3_isWithin ⟨Nat.le_of_ble_eq_true rfl, Nat.le_of_ble_eq_true rfl⟩) dX3_seenThen_17 rfl rfl (Nat.le_of_ble_eq_true rfl) rfl rfl (by decide) (fun H locs hH => ?_)
    have hH : Hs D A s.heap (wMn cI cJ cQ ad yn ym yk yl yt yd yu ye yv yo y0 y1 yc yh) H locs := hH
    refine lv_if_ne (tgt := 39) hx hb dX3_seenThen_20 (by decide) (fun hc => ?_) (fun hc => ?_)
    · have hf := wp_f hc hf
      refine lv_iload_n hx hb dX3_seenThen_39 rfl (lv_at hl 3 rfl) ?_
      obtain ⟨x3, hcl, hf⟩ := wp_b hf
      refine k_Si F hK hH hA hl.1 ⟨Nat.zero_le _, Nat.zero_le _⟩ [] [.int v3] [] (ctX3_isEither v3 hcl) (va_cwS 1 hts gX3_seenThen_X3_isEither rfl rfl rfl hdSX3_isEither ⟨Nat.le_of_ble_eq_true rfl, Nat.le_of_ble_eq_true rfl⟩) dX3_seenThen_40 rfl rfl (Nat.le_of_ble_eq_true rfl) rfl rfl (by decide) (fun H locs hH => ?_)
      have hH : Hs D A s.heap (wMn cI cJ cQ ad yn ym yk yl yt yd yu ye yv yo y0 y1 yc yh) H locs := hH
      refine lv_if_ne (tgt := 53) hx hb dX3_seenThen_43 (by decide) (fun hc => ?_) (fun hc => ?_)
      · have hf := wp_f hc hf
        refine lv_aload_n hx hb dX3_seenThen_53 rfl (lv_at hl 0 rfl) ?_
        refine lv_iload_n hx hb dX3_seenThen_54 rfl (lv_at hl 2 rfl) ?_
        obtain ⟨x4, hcl, hf⟩ := wp_b hf
        refine k_Vr0 F hK hH hA hl.1 ⟨Nat.zero_le _, Nat.zero_le _⟩ [.int v2] [] (ctX3_inMindBehind ad yn ym yk yl yt yd yu ye yv yo y0 y1 yc yh v2 hcl) (cwV 1 hts gX3_seenThen_X3_inMindBehind rfl rfl rfl hdVX3_inMindBehind ⟨Nat.le_of_ble_eq_true rfl, Nat.le_of_ble_eq_true rfl⟩) dX3_seenThen_55 0 rfl rfl rfl rfl rfl (Nat.le_of_ble_eq_true rfl) rfl (fun H locs hH => ?_)
        have hH : Hs D A s.heap (wMn cI cJ cQ ad yn x4 yk yl yt yd yu ye yv yo y0 y1 yc yh) H locs := hH
        refine W.eq (g2 := F0 m 58 ls [.ref (ad 9)]) rfl ?_
        refine lv_astore (lv' := [(4, .ref (ad 9)), (0, .ref (ad 0)), (1, .int v1), (2, .int v2), (3, .int v3)]) hx hb dX3_seenThen_58 hl (by decide) rfl (fun ls hl => ?_)
        refine lv_iload_n hx hb dX3_seenThen_60 rfl (lv_at hl 4 rfl) ?_
        refine lv_if_ne (tgt := 73) hx hb dX3_seenThen_61 (by decide) (fun hc => ?_) (fun hc => ?_)
        · have hf := wp_f hc hf
          refine lv_aload hx hb dX3_seenThen_73 (lv_at hl 0 rfl) ?_
          refine lv_iload_n hx hb dX3_seenThen_75 rfl (lv_at hl 2 rfl) ?_
          obtain ⟨x5, hcl, hf⟩ := wp_b hf
          refine k_Vi F hK hH hA hl.1 ⟨Nat.zero_le _, Nat.zero_le _⟩ [9, 10, 11, 12, 13, 14, 15, 16] [.int v1] [] (ctX0_verdictFrom (fun k => ad (9 + k)) x4 v1 hcl) (cwV 1 hts gX3_seenThen_X0_verdictFrom rfl rfl rfl hdVX0_verdictFrom ⟨Nat.le_of_ble_eq_true rfl, Nat.le_of_ble_eq_true rfl⟩) dX3_seenThen_76 9 rfl rfl rfl rfl rfl (Nat.le_of_ble_eq_true rfl) rfl rfl (by decide) (fun H locs hH => ?_)
          have hH : Hs D A s.heap (wMn cI cJ cQ ad yn x4 yk yl yt yd yu ye yv yo y0 y1 yc yh) H locs := hH
          have hrs := wp_s hf
          subst hrs
          exact RET H locs ls 79 dX3_seenThen_79 rfl hH
        · have hf := wp_t hc hf
          refine lv_aload hx hb dX3_seenThen_64 (lv_at hl 0 rfl) ?_
          refine lv_iload_n hx hb dX3_seenThen_66 rfl (lv_at hl 2 rfl) ?_
          obtain ⟨x6, hcl, hf⟩ := wp_b hf
          refine k_Vi F hK hH hA hl.1 ⟨Nat.zero_le _, Nat.zero_le _⟩ [9, 10, 11, 12, 13, 14, 15, 16] [.int v1] [] (ctX0_sightFrom (fun k => ad (9 + k)) x4 v1 hcl) (cwV 1 hts gX3_seenThen_X0_sightFrom rfl rfl rfl hdVX0_sightFrom ⟨Nat.le_of_ble_eq_true rfl, Nat.le_of_ble_eq_true rfl⟩) dX3_seenThen_67 9 rfl rfl rfl rfl rfl (Nat.le_of_ble_eq_true rfl) rfl rfl (by decide) (fun H locs hH => ?_)
          have hH : Hs D A s.heap (wMn cI cJ cQ ad yn x4 yk yl yt yd yu ye yv yo y0 y1 yc yh) H locs := hH
          refine lv_goto (tgt := 79) hx hb dX3_seenThen_70 (by decide) ?_
          have hrs := wp_s hf
          subst hrs
          exact RET H locs ls 79 dX3_seenThen_79 rfl hH
      · have hf := wp_t hc hf
        refine lv_aload_n hx hb dX3_seenThen_46 rfl (lv_at hl 0 rfl) ?_
        refine lv_bipush (v := (-2)) hx hb dX3_seenThen_47 (by decide) ?_
        obtain ⟨x7, hcl, hf⟩ := wp_b hf
        refine k_Vi0 F hK hH hA hl.1 ⟨Nat.zero_le _, Nat.zero_le _⟩ [.int (-2)] [] (ctX3_refuse ad yn ym yk yl yt yd yu ye yv yo y0 y1 yc yh (-2) hcl) (cwV 1 hts gX3_seenThen_X3_refuse rfl rfl rfl hdVX3_refuse ⟨Nat.le_of_ble_eq_true rfl, Nat.le_of_ble_eq_true rfl⟩) dX3_seenThen_49 0 rfl rfl rfl rfl rfl (Nat.le_of_ble_eq_true rfl) rfl (fun H locs hH => ?_)
        have hH : Hs D A s.heap (wMn cI cJ cQ ad yn ym yk yl yt yd yu x7.2 yv yo y0 y1 yc yh) H locs := hH
        refine W.eq (g2 := F0 m 52 ls [.int x7.1]) rfl ?_
        have hrs := wp_s hf
        subst hrs
        exact RET H locs ls 52 dX3_seenThen_52 rfl hH
    · have hf := wp_t hc hf
      refine lv_aload_n hx hb dX3_seenThen_23 rfl (lv_at hl 0 rfl) ?_
      refine lv_iload_n hx hb dX3_seenThen_24 rfl (lv_at hl 2 rfl) ?_
      refine join_ (α := Int32) (fun Φ => ∀ (t8 : Int32) (H : Heap) (locs : List Loc) (ls : Array Slot), Φ t8 → Hs D A s.heap (wMn cI cJ cQ ad yn ym yk yl yt yd yu ye yv yo y0 y1 yc yh) H locs → lv_has ls 5 [] → W p l e rmX3_seenThen s m args below meth c H locs 0 0 Q (F0 m 35 ls [.int t8, .ref (ad 0)])) (wp_bb hf) ?_ ?_
      · intro t8 H locs ls hf hH hl
        obtain ⟨x9, hcl, hf⟩ := wp_b hf
        refine k_Vi0 F hK hH hA hl.1 ⟨Nat.zero_le _, Nat.zero_le _⟩ [.int t8] [] (ctX3_refuse ad yn ym yk yl yt yd yu ye yv yo y0 y1 yc yh t8 hcl) (cwV 1 hts gX3_seenThen_X3_refuse rfl rfl rfl hdVX3_refuse ⟨Nat.le_of_ble_eq_true rfl, Nat.le_of_ble_eq_true rfl⟩) dX3_seenThen_35 0 rfl rfl rfl rfl rfl (Nat.le_of_ble_eq_true rfl) rfl (fun H locs hH => ?_)
        have hH : Hs D A s.heap (wMn cI cJ cQ ad yn ym yk yl yt yd yu x9.2 yv yo y0 y1 yc yh) H locs := hH
        refine W.eq (g2 := F0 m 38 ls [.int x9.1]) rfl ?_
        have hrs := wp_s hf
        subst hrs
        exact RET H locs ls 38 dX3_seenThen_38 rfl hH
      · intro Φ JJ hf
        refine lv_if_ge (tgt := 33) hx hb dX3_seenThen_25 (by decide) (fun hc => ?_) (fun hc => ?_)
        · have hf := wp_t hc hf
          refine lv_bipush (v := (-6)) hx hb dX3_seenThen_33 (by decide) ?_
          have hw := wp_s hf
          exact JJ _ _ _ _ hw hH (lv_sub hl [] rfl)
        · have hf := wp_f hc hf
          refine lv_bipush (v := (-4)) hx hb dX3_seenThen_28 (by decide) ?_
          refine lv_goto (tgt := 35) hx hb dX3_seenThen_30 (by decide) ?_
          have hw := wp_s hf
          exact JJ _ _ _ _ hw hH (lv_sub hl [] rfl)
  · have hf := wp_t hc hf
    refine lv_aload_n hx hb dX3_seenThen_7 rfl (lv_at hl 0 rfl) ?_
    refine lv_iconst (v := (-1)) hx hb dX3_seenThen_8 (by decide) ?_
    obtain ⟨x10, hcl, hf⟩ := wp_b hf
    refine k_Vi0 F hK hH hA hl.1 ⟨Nat.zero_le _, Nat.zero_le _⟩ [.int (-1)] [] (ctX3_refuse ad yn ym yk yl yt yd yu ye yv yo y0 y1 yc yh (-1) hcl) (cwV 1 hts gX3_seenThen_X3_refuse rfl rfl rfl hdVX3_refuse ⟨Nat.le_of_ble_eq_true rfl, Nat.le_of_ble_eq_true rfl⟩) dX3_seenThen_9 0 rfl rfl rfl rfl rfl (Nat.le_of_ble_eq_true rfl) rfl (fun H locs hH => ?_)
    have hH : Hs D A s.heap (wMn cI cJ cQ ad yn ym yk yl yt yd yu x10.2 yv yo y0 y1 yc yh) H locs := hH
    refine W.eq (g2 := F0 m 12 ls [.int x10.1]) rfl ?_
    have hrs := wp_s hf
    subst hrs
    exact RET H locs ls 12 dX3_seenThen_12 rfl hH

def bX3_falls_35 (v1 : Int32) (v2 : Int32) (ye : (Nat → Int32)) : (Int32 × LandT) → Option ((Int32 × LandT) ⊕ ((Int32 × LandT × (Nat → Int32)) ⊕ (LandT))) := fun ((t4, t5) : Int32 × LandT) =>
  if (60 : Int32) < t4 then
    some (.inr (.inr t5))
  else
    Option.bind (fX0_verdictFrom v1 t5) fun x7 =>
    if x7 = v2 then
      some (.inr (.inl (t4, t5, ye)))
    else
      Option.bind (fX0_passHours 1 t5) fun x8 =>
      some (.inl (t4 + 1, x8))

def fX3_falls (v1 : Int32) (v2 : Int32) (yn : LandT) (ym : LandT) (ye : (Nat → Int32)) : Option (Int32 × LandT × (Nat → Int32)) :=
  Option.bind (fX3_isBranch v1) fun x1 =>
  if x1 = 0 then
    Option.bind (fX3_refuse (-1) ye) fun x10 =>
    some (x10.1, ym, x10.2)
  else
    Option.bind (fX3_isVerdict v2) fun x2 =>
    if x2 = 0 then
      Option.bind (fX3_refuse (-2) ye) fun x9 =>
      some (x9.1, ym, x9.2)
    else
      Option.bind (fX3_inMind yn ym) fun x3 =>
      Option.bind (lp (bX3_falls_35 v1 v2 ye) fu (0, x3)) (el (fun v => some v) (fun (t6 : LandT) =>
        some ((-9), t6, ye)))

def rmX3_falls : Room := { frames := 5, cells := 0, slots := 0, locals := 110 }
theorem hdVX3_falls : yX3_falls.cls = RX3 ∧ yX3_falls.cls ≠ "java/lang/invoke/MethodHandle" ∧ yX3_falls.cls ≠ "java/lang/invoke/VarHandle" ∧ (parseMethodDescriptor yX3_falls.desc).map (fun d => d.parameters.length) = some 2 := by decide +kernel
set_option maxHeartbeats 4000000 in
set_option maxRecDepth 100000 in
theorem ctX3_falls {l : Launch} {D : va_G} {cI cJ cQ : ClassId} (ad : Nat → Nat) (yn : LandT) (ym : LandT) (yk : LandT) (yl : (Nat → Int32)) (yt : Int32) (yd : Int32) (yu : (Nat → Int32)) (ye : (Nat → Int32)) (yv : (Nat → Int32)) (yo : (Nat → Int64)) (y0 : (Nat → Int32)) (y1 : (Nat → Int32)) (yc : Int32) (yh : Int32) (v1 : Int32) (v2 : Int32) {res : Int32 × LandT × (Nat → Int32)} (h : fX3_falls v1 v2 yn ym ye = some res) : CtI l D cI cJ cQ yX3_falls wsX3_falls rmX3_falls [.ref (ad 0), .int v1, .int v2] (wMn cI cJ cQ ad yn ym yk yl yt yd yu ye yv yo y0 y1 yc yh) res.1 (wMn cI cJ cQ ad yn res.2.1 yk yl yt yd yu res.2.2 yv yo y0 y1 yc yh) := by
  refine ctI_of .int (cc := cX3_falls) (maxL := 5) (by decide) rfl (Nat.le_of_ble_eq_true rfl) ?_
  intro p e s m args below meth c A Q ls F hK hA RET hH hl
  obtain ⟨hx, hb, hml, hown, hts⟩ := id F
  have hl : lv_has ls 5 [(0, .ref (ad 0)), (1, .int v1), (2, .int v2)] := hl
  have hf : wpO (fX3_falls v1 v2 yn ym ye) (fun v => v = res) := ⟨_, h, rfl⟩
  obtain ⟨H, eH⟩ : ∃ H, H = s.heap := ⟨_, rfl⟩
  obtain ⟨locs, eL⟩ : ∃ locs : List Loc, locs = [] := ⟨_, rfl⟩
  have hH : Hs D A s.heap (wMn cI cJ cQ ad yn ym yk yl yt yd yu ye yv yo y0 y1 yc yh) H locs := by rw [eH, eL]; exact hH
  rw [← eL]
  suffices hgo : W p l e rmX3_falls s m args below meth c H locs 0 0 Q (F0 m 0 ls []) by rw [eH] at hgo; exact hgo
  clear eH eL
  refine lv_iload_n hx hb dX3_falls_0 rfl (lv_at hl 1 rfl) ?_
  obtain ⟨x1, hcl, hf⟩ := wp_b hf
  refine k_Si F hK hH hA hl.1 ⟨Nat.zero_le _, Nat.zero_le _⟩ [] [.int v1] [] (ctX3_isBranch v1 hcl) (va_cwS 1 hts gX3_falls_X3_isBranch rfl rfl rfl hdSX3_isBranch ⟨Nat.le_of_ble_eq_true rfl, Nat.le_of_ble_eq_true rfl⟩) dX3_falls_1 rfl rfl (Nat.le_of_ble_eq_true rfl) rfl rfl (by decide) (fun H locs hH => ?_)
  have hH : Hs D A s.heap (wMn cI cJ cQ ad yn ym yk yl yt yd yu ye yv yo y0 y1 yc yh) H locs := hH
  refine lv_if_ne (tgt := 13) hx hb dX3_falls_4 (by decide) (fun hc => ?_) (fun hc => ?_)
  · have hf := wp_f hc hf
    refine lv_iload_n hx hb dX3_falls_13 rfl (lv_at hl 2 rfl) ?_
    obtain ⟨x2, hcl, hf⟩ := wp_b hf
    refine k_Si F hK hH hA hl.1 ⟨Nat.zero_le _, Nat.zero_le _⟩ [] [.int v2] [] (ctX3_isVerdict v2 hcl) (va_cwS 1 hts gX3_falls_X3_isVerdict rfl rfl rfl hdSX3_isVerdict ⟨Nat.le_of_ble_eq_true rfl, Nat.le_of_ble_eq_true rfl⟩) dX3_falls_14 rfl rfl (Nat.le_of_ble_eq_true rfl) rfl rfl (by decide) (fun H locs hH => ?_)
    have hH : Hs D A s.heap (wMn cI cJ cQ ad yn ym yk yl yt yd yu ye yv yo y0 y1 yc yh) H locs := hH
    refine lv_if_ne (tgt := 27) hx hb dX3_falls_17 (by decide) (fun hc => ?_) (fun hc => ?_)
    · have hf := wp_f hc hf
      refine lv_aload_n hx hb dX3_falls_27 rfl (lv_at hl 0 rfl) ?_
      obtain ⟨x3, hcl, hf⟩ := wp_b hf
      refine k_Vr0 F hK hH hA hl.1 ⟨Nat.zero_le _, Nat.zero_le _⟩ [] [] (ctX3_inMind ad yn ym yk yl yt yd yu ye yv yo y0 y1 yc yh hcl) (cwV 0 hts gX3_falls_X3_inMind rfl rfl rfl hdVX3_inMind ⟨Nat.le_of_ble_eq_true rfl, Nat.le_of_ble_eq_true rfl⟩) dX3_falls_28 0 rfl rfl rfl rfl rfl (Nat.le_of_ble_eq_true rfl) rfl (fun H locs hH => ?_)
      have hH : Hs D A s.heap (wMn cI cJ cQ ad yn x3 yk yl yt yd yu ye yv yo y0 y1 yc yh) H locs := hH
      refine W.eq (g2 := F0 m 31 ls [.ref (ad 9)]) rfl ?_
      refine lv_astore_n (lv' := [(3, .ref (ad 9)), (0, .ref (ad 0)), (1, .int v1), (2, .int v2)]) hx hb dX3_falls_31 rfl hl (by decide) rfl (fun ls hl => ?_)
      refine lv_iconst (v := 0) hx hb dX3_falls_32 (by decide) ?_
      refine lv_istore (lv' := [(4, .int 0), (3, .ref (ad 9)), (0, .ref (ad 0)), (1, .int v1), (2, .int v2)]) hx hb dX3_falls_33 hl (by decide) rfl (fun ls hl => ?_)
      have LP : ∀ (Φ : ((Int32 × LandT × (Nat → Int32)) ⊕ (LandT)) → Prop), (∀ v : Int32 × LandT × (Nat → Int32), Φ (.inl v) → v = res) → (∀ (t6 : LandT) (H : Heap) (locs : List Loc) (ls : Array Slot), Φ (.inr t6) → Hs D A s.heap (wMn cI cJ cQ ad yn t6 yk yl yt yd yu ye yv yo y0 y1 yc yh) H locs → lv_has ls 5 [] → W p l e rmX3_falls s m args below meth c H locs 0 0 Q (F0 m 65 ls [])) → ∀ (n : Nat) (t4 : Int32) (t5 : LandT) (H : Heap) (locs : List Loc) (ls : Array Slot), wpO (lp (bX3_falls_35 v1 v2 ye) n (t4, t5)) Φ → Hs D A s.heap (wMn cI cJ cQ ad yn t5 yk yl yt yd yu ye yv yo y0 y1 yc yh) H locs → lv_has ls 5 [(1, .int v1), (2, .int v2), (3, .ref (ad 9)), (4, .int t4)] → W p l e rmX3_falls s m args below meth c H locs 0 0 Q (F0 m 35 ls []) := by
        intro Φ hret EX n
        induction n with
        | zero =>
          intro t4 t5 H locs ls hf hH hl
          exact (wp_l0 hf).elim
        | succ n ih =>
          intro t4 t5 H locs ls hf hH hl
          have hf := wp_l hf
          refine lv_iload hx hb dX3_falls_35 (lv_at hl 3 rfl) ?_
          refine lv_bipush (v := 60) hx hb dX3_falls_37 (by decide) ?_
          refine lv_icmp_gt (tgt := 65) hx hb dX3_falls_39 (by decide) (fun hc => ?_) (fun hc => ?_)
          · have hf := wp_t hc hf
            have hw := wp_out hf
            exact EX _ _ _ _ hw hH (lv_sub hl [] rfl)
          · have hf := wp_f hc hf
            refine lv_aload_n hx hb dX3_falls_42 rfl (lv_at hl 2 rfl) ?_
            refine lv_iload_n hx hb dX3_falls_43 rfl (lv_at hl 0 rfl) ?_
            obtain ⟨x7, hcl, hf⟩ := wp_b hf
            refine k_Vi F hK hH hA hl.1 ⟨Nat.zero_le _, Nat.zero_le _⟩ [9, 10, 11, 12, 13, 14, 15, 16] [.int v1] [] (ctX0_verdictFrom (fun k => ad (9 + k)) t5 v1 hcl) (cwV 1 hts gX3_falls_X0_verdictFrom rfl rfl rfl hdVX0_verdictFrom ⟨Nat.le_of_ble_eq_true rfl, Nat.le_of_ble_eq_true rfl⟩) dX3_falls_44 9 rfl rfl rfl rfl rfl (Nat.le_of_ble_eq_true rfl) rfl rfl (by decide) (fun H locs hH => ?_)
            have hH : Hs D A s.heap (wMn cI cJ cQ ad yn t5 yk yl yt yd yu ye yv yo y0 y1 yc yh) H locs := hH
            refine lv_iload_n hx hb dX3_falls_47 rfl (lv_at hl 1 rfl) ?_
            refine lv_icmp_ne (tgt := 54) hx hb dX3_falls_48 (by decide) (fun hc => ?_) (fun hc => ?_)
            · have hf := wp_f hc hf
              refine lv_aload_n hx hb dX3_falls_54 rfl (lv_at hl 2 rfl) ?_
              refine lv_iconst (v := 1) hx hb dX3_falls_55 (by decide) ?_
              obtain ⟨x8, hcl, hf⟩ := wp_b hf
              refine k_Vv F hK hH hA hl.1 ⟨Nat.zero_le _, Nat.zero_le _⟩ [9, 10, 11, 12, 13, 14, 15, 16] [.int 1] [] (ctX0_passHours (fun k => ad (9 + k)) t5 1 hcl) (cwV 1 hts gX3_falls_X0_passHours rfl rfl rfl hdVX0_passHours ⟨Nat.le_of_ble_eq_true rfl, Nat.le_of_ble_eq_true rfl⟩) dX3_falls_56 9 rfl rfl rfl rfl rfl (Nat.le_of_ble_eq_true rfl) rfl rfl (by decide) (fun H locs hH => ?_)
              have hH : Hs D A s.heap (wMn cI cJ cQ ad yn x8 yk yl yt yd yu ye yv yo y0 y1 yc yh) H locs := hH
              refine lv_iinc (v := t4 + 1) (lv' := [(4, .int (t4 + 1)), (1, .int v1), (2, .int v2), (3, .ref (ad 9))]) hx hb dX3_falls_59 hl (k := 3) rfl rfl (by decide) rfl (fun ls hl => ?_)
              refine lv_goto (tgt := 35) hx hb dX3_falls_62 (by decide) ?_
              have hw := wp_in hf
              exact ih _ _ _ _ _ hw hH (lv_sub hl [1, 2, 3, 0] rfl)
            · have hf := wp_t hc hf
              refine lv_iload hx hb dX3_falls_51 (lv_at hl 3 rfl) ?_
              have hrs := hret _ (wp_out hf)
              subst hrs
              exact RET H locs ls 53 dX3_falls_53 rfl hH
      refine LP _ (fun v hv => by have h9 := wp_s hv; exact h9) (fun t6 H locs ls hf hH hl => ?_) fu _ _ _ _ _ (wp_bb hf) hH (lv_sub hl [3, 4, 1, 0] rfl)
      refine lv_bipush (v := (-9)) hx hb dX3_falls_65 (by decide) ?_
      have hrs := wp_s hf
      subst hrs
      exact RET H locs ls 67 dX3_falls_67 rfl hH
    · have hf := wp_t hc hf
      refine lv_aload_n hx hb dX3_falls_20 rfl (lv_at hl 0 rfl) ?_
      refine lv_bipush (v := (-2)) hx hb dX3_falls_21 (by decide) ?_
      obtain ⟨x9, hcl, hf⟩ := wp_b hf
      refine k_Vi0 F hK hH hA hl.1 ⟨Nat.zero_le _, Nat.zero_le _⟩ [.int (-2)] [] (ctX3_refuse ad yn ym yk yl yt yd yu ye yv yo y0 y1 yc yh (-2) hcl) (cwV 1 hts gX3_falls_X3_refuse rfl rfl rfl hdVX3_refuse ⟨Nat.le_of_ble_eq_true rfl, Nat.le_of_ble_eq_true rfl⟩) dX3_falls_23 0 rfl rfl rfl rfl rfl (Nat.le_of_ble_eq_true rfl) rfl (fun H locs hH => ?_)
      have hH : Hs D A s.heap (wMn cI cJ cQ ad yn ym yk yl yt yd yu x9.2 yv yo y0 y1 yc yh) H locs := hH
      refine W.eq (g2 := F0 m 26 ls [.int x9.1]) rfl ?_
      have hrs := wp_s hf
      subst hrs
      exact RET H locs ls 26 dX3_falls_26 rfl hH
  · have hf := wp_t hc hf
    refine lv_aload_n hx hb dX3_falls_7 rfl (lv_at hl 0 rfl) ?_
    refine lv_iconst (v := (-1)) hx hb dX3_falls_8 (by decide) ?_
    obtain ⟨x10, hcl, hf⟩ := wp_b hf
    refine k_Vi0 F hK hH hA hl.1 ⟨Nat.zero_le _, Nat.zero_le _⟩ [.int (-1)] [] (ctX3_refuse ad yn ym yk yl yt yd yu ye yv yo y0 y1 yc yh (-1) hcl) (cwV 1 hts gX3_falls_X3_refuse rfl rfl rfl hdVX3_refuse ⟨Nat.le_of_ble_eq_true rfl, Nat.le_of_ble_eq_true rfl⟩) dX3_falls_9 0 rfl rfl rfl rfl rfl (Nat.le_of_ble_eq_true rfl) rfl (fun H locs hH => ?_)
    have hH : Hs D A s.heap (wMn cI cJ cQ ad yn ym yk yl yt yd yu x10.2 yv yo y0 y1 yc yh) H locs := hH
    refine W.eq (g2 := F0 m 12 ls [.int x10.1]) rfl ?_
    have hrs := wp_s hf
    subst hrs
    exact RET H locs ls 12 dX3_falls_12 rfl hH

