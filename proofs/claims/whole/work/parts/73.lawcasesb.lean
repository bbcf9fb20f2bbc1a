set_option maxHeartbeats 4000000 in
set_option maxRecDepth 100000 in
theorem law_c10 {p : Program} {l : Launch} {e : Env} {s : State} {m : MethodId} {below : List Frame} {meth : Method} {c : Code} {D : va_G} {cI cJ cQ : ClassId} {aK aV : Nat → Nat} {ad bd : Nat → Nat} {b N j : Nat} {xv : Nat → Int32} (F : CallFix p m c cL_law 4 s #[Value.ref b] wsL_law RL) (hK : KK D cI cJ cQ s) (hT : TXF aK aV (fun q : Nat => s.heap.size ≤ q) s s.heap) (hX : va_X b N xv s s.heap) (hbl : b < s.heap.size) (hN : N ≤ 3072) (hj : j + 6 ≤ N) (yn : LandT) (ym : LandT) (yk : LandT) (yl : (Nat → Int32)) (yt : Int32) (yd : Int32) (yu : (Nat → Int32)) (ye : (Nat → Int32)) (yv : (Nat → Int32)) (yo : (Nat → Int64)) (y0 : (Nat → Int32)) (y1 : (Nat → Int32)) (yc : Int32) (yh : Int32) (xs : (Nat → Int32)) (xm : (Nat → Int32)) (xi : (Nat → Int32)) (xw : (Nat → Int32)) (xh : Int32) (xl : (Nat → Int32)) (xr : (Nat → Int32)) (xe : (Nat → Int32)) (xn : Int32) (xo : Int32) (xp : Int32) (xu : (Nat → Int32)) (xd : Int32) {H : Heap} {locs : List Loc} {ls : Array Slot} (hI : Inv yn yk yl yt yu ye yc yh xs xi xh xl xr xe xn xo) (hH : Hs D (fun q : Nat => s.heap.size ≤ q) s.heap (wMn cI cJ cQ ad yn ym yk yl yt yd yu ye yv yo y0 y1 yc yh ++ wMd cI bd xs xm xi xw xh xl xr xe xn xo xp xu xd) H locs) (hl : lv_has ls 4 [(0, .ref b), (1, .ref (ad 0)), (2, .ref (bd 0)), (3, .int (nI j))]) (NEXT : ∀ (yn : LandT) (ym : LandT) (yk : LandT) (yl : (Nat → Int32)) (yt : Int32) (yd : Int32) (yu : (Nat → Int32)) (ye : (Nat → Int32)) (yv : (Nat → Int32)) (yo : (Nat → Int64)) (y0 : (Nat → Int32)) (y1 : (Nat → Int32)) (yc : Int32) (yh : Int32) (xs : (Nat → Int32)) (xm : (Nat → Int32)) (xi : (Nat → Int32)) (xw : (Nat → Int32)) (xh : Int32) (xl : (Nat → Int32)) (xr : (Nat → Int32)) (xe : (Nat → Int32)) (xn : Int32) (xo : Int32) (xp : Int32) (xu : (Nat → Int32)) (xd : Int32) (H : Heap) (locs : List Loc) (ls : Array Slot), Inv yn yk yl yt yu ye yc yh xs xi xh xl xr xe xn xo → Hs D (fun q : Nat => s.heap.size ≤ q) s.heap (wMn cI cJ cQ ad yn ym yk yl yt yd yu ye yv yo y0 y1 yc yh ++ wMd cI bd xs xm xi xw xh xl xr xe xn xo xp xu xd) H locs → lv_has ls 4 [(0, .ref b), (1, .ref (ad 0)), (2, .ref (bd 0)), (3, .int (nI j))] → W p l e room_1 s m #[Value.ref b] below meth c H locs 44 733 (lw_Z below #[Value.ref b] s) (F0 m 1336 ls [])) : W p l e room_1 s m #[Value.ref b] below meth c H locs 44 733 (lw_Z below #[Value.ref b] s) (F0 m 480 ls []) := by
  obtain ⟨hx, hb, hml, hown, hts⟩ := id F
  have hA : ∀ q : Nat, s.heap.size ≤ q → (fun q : Nat => s.heap.size ≤ q) q := fun _ h => h
  have hbA : ¬ (fun q : Nat => s.heap.size ≤ q) b := Nat.not_le.mpr hbl
  obtain ⟨ra, rb, h1, h2, hr, hI⟩ := st_turn yn ym yk yl yt yd yu ye yv yo y0 y1 yc yh xs xm xi xw xh xl xr xe xn xo xp xu xd (xv (Int32.toNatClampNeg (nI j + 1))) (xv (Int32.toNatClampNeg (nI j + 2))) (xv (Int32.toNatClampNeg (nI j + 3))) hI
  refine lv_aload_n hx hb dL_law_480 rfl (lv_at hl 1 rfl) ?_
  refine lv_aload_n hx hb dL_law_481 rfl (lv_at hl 0 rfl) ?_
  refine lv_iload_n hx hb dL_law_482 rfl (lv_at hl 3 rfl) ?_
  refine lv_iconst (v := 1) hx hb dL_law_483 (by decide) ?_
  refine lv_iadd hx hb dL_law_484 ?_
  refine va_sld hx hb hX hbl hbA hH.2.2 (law_ix hN hj 1 (by decide)) dL_law_485 ?_
  refine lv_aload_n hx hb dL_law_486 rfl (lv_at hl 0 rfl) ?_
  refine lv_iload_n hx hb dL_law_487 rfl (lv_at hl 3 rfl) ?_
  refine lv_iconst (v := 2) hx hb dL_law_488 (by decide) ?_
  refine lv_iadd hx hb dL_law_489 ?_
  refine va_sld hx hb hX hbl hbA hH.2.2 (law_ix hN hj 2 (by decide)) dL_law_490 ?_
  refine lv_aload_n hx hb dL_law_491 rfl (lv_at hl 0 rfl) ?_
  refine lv_iload_n hx hb dL_law_492 rfl (lv_at hl 3 rfl) ?_
  refine lv_iconst (v := 3) hx hb dL_law_493 (by decide) ?_
  refine lv_iadd hx hb dL_law_494 ?_
  refine va_sld hx hb hX hbl hbA hH.2.2 (law_ix hN hj 3 (by decide)) dL_law_495 ?_
  refine k_ViL F hK hH hA hl.1 ⟨(Nat.le_of_ble_eq_true rfl), (Nat.le_of_ble_eq_true rfl)⟩ [.int (xv (Int32.toNatClampNeg (nI j + 1))), .int (xv (Int32.toNatClampNeg (nI j + 2))), .int (xv (Int32.toNatClampNeg (nI j + 3)))] [] (ctX3_turn ad yn ym yk yl yt yd yu ye yv yo y0 y1 yc yh (xv (Int32.toNatClampNeg (nI j + 1))) (xv (Int32.toNatClampNeg (nI j + 2))) (xv (Int32.toNatClampNeg (nI j + 3))) h1) (cwV 3 F.2.2.2.2 gL_law_X3_turn rfl rfl rfl hdVX3_turn ⟨(Nat.le_of_ble_eq_true rfl), (Nat.le_of_ble_eq_true rfl)⟩) dL_law_496 rfl rfl rfl rfl rfl (Nat.le_of_ble_eq_true rfl) rfl (fun H locs hH => ?_)
  have hH : Hs D (fun q : Nat => s.heap.size ≤ q) s.heap (wMn cI cJ cQ ad ra.2.1 ym yk yl yt yd yu ra.2.2 yv yo y0 y1 yc yh ++ wMd cI bd xs xm xi xw xh xl xr xe xn xo xp xu xd) H locs := hH
  refine lv_aload_n hx hb dL_law_499 rfl (lv_at hl 2 rfl) ?_
  refine lv_aload_n hx hb dL_law_500 rfl (lv_at hl 0 rfl) ?_
  refine lv_iload_n hx hb dL_law_501 rfl (lv_at hl 3 rfl) ?_
  refine lv_iconst (v := 1) hx hb dL_law_502 (by decide) ?_
  refine lv_iadd hx hb dL_law_503 ?_
  refine va_sld hx hb hX hbl hbA hH.2.2 (law_ix hN hj 1 (by decide)) dL_law_504 ?_
  refine lv_aload_n hx hb dL_law_505 rfl (lv_at hl 0 rfl) ?_
  refine lv_iload_n hx hb dL_law_506 rfl (lv_at hl 3 rfl) ?_
  refine lv_iconst (v := 2) hx hb dL_law_507 (by decide) ?_
  refine lv_iadd hx hb dL_law_508 ?_
  refine va_sld hx hb hX hbl hbA hH.2.2 (law_ix hN hj 2 (by decide)) dL_law_509 ?_
  refine lv_aload_n hx hb dL_law_510 rfl (lv_at hl 0 rfl) ?_
  refine lv_iload_n hx hb dL_law_511 rfl (lv_at hl 3 rfl) ?_
  refine lv_iconst (v := 3) hx hb dL_law_512 (by decide) ?_
  refine lv_iadd hx hb dL_law_513 ?_
  refine va_sld hx hb hX hbl hbA hH.2.2 (law_ix hN hj 3 (by decide)) dL_law_514 ?_
  refine k_ViR F hK hH hA hl.1 ⟨(Nat.le_of_ble_eq_true rfl), (Nat.le_of_ble_eq_true rfl)⟩ [.int (xv (Int32.toNatClampNeg (nI j + 1))), .int (xv (Int32.toNatClampNeg (nI j + 2))), .int (xv (Int32.toNatClampNeg (nI j + 3)))] [.int ra.1] (ctX4_turn bd xs xm xi xw xh xl xr xe xn xo xp xu xd (xv (Int32.toNatClampNeg (nI j + 1))) (xv (Int32.toNatClampNeg (nI j + 2))) (xv (Int32.toNatClampNeg (nI j + 3))) h2) (cwV 3 F.2.2.2.2 gL_law_X4_turn rfl rfl rfl hdVX4_turn ⟨(Nat.le_of_ble_eq_true rfl), (Nat.le_of_ble_eq_true rfl)⟩) dL_law_515 rfl rfl rfl rfl rfl (Nat.le_of_ble_eq_true rfl) rfl (fun H locs hH => ?_)
  have hH : Hs D (fun q : Nat => s.heap.size ≤ q) s.heap (wMn cI cJ cQ ad ra.2.1 ym yk yl yt yd yu ra.2.2 yv yo y0 y1 yc yh ++ wMd cI bd rb.2.1 xm xi xw xh xl xr rb.2.2 xn xo xp xu xd) H locs := hH
  refine lv_icmp_eq (tgt := 1336) hx hb dL_law_518 (by decide) (fun _ => ?_) (fun hc => ?_)
  · exact NEXT _ _ _ _ _ _ _ _ _ _ _ _ _ _ _ _ _ _ _ _ _ _ _ _ _ _ _ H locs ls hI hH hl
  · exact absurd hr hc

set_option maxHeartbeats 4000000 in
set_option maxRecDepth 100000 in
theorem law_c11 {p : Program} {l : Launch} {e : Env} {s : State} {m : MethodId} {below : List Frame} {meth : Method} {c : Code} {D : va_G} {cI cJ cQ : ClassId} {aK aV : Nat → Nat} {ad bd : Nat → Nat} {b N j : Nat} {xv : Nat → Int32} (F : CallFix p m c cL_law 4 s #[Value.ref b] wsL_law RL) (hK : KK D cI cJ cQ s) (hT : TXF aK aV (fun q : Nat => s.heap.size ≤ q) s s.heap) (hX : va_X b N xv s s.heap) (hbl : b < s.heap.size) (hN : N ≤ 3072) (hj : j + 6 ≤ N) (yn : LandT) (ym : LandT) (yk : LandT) (yl : (Nat → Int32)) (yt : Int32) (yd : Int32) (yu : (Nat → Int32)) (ye : (Nat → Int32)) (yv : (Nat → Int32)) (yo : (Nat → Int64)) (y0 : (Nat → Int32)) (y1 : (Nat → Int32)) (yc : Int32) (yh : Int32) (xs : (Nat → Int32)) (xm : (Nat → Int32)) (xi : (Nat → Int32)) (xw : (Nat → Int32)) (xh : Int32) (xl : (Nat → Int32)) (xr : (Nat → Int32)) (xe : (Nat → Int32)) (xn : Int32) (xo : Int32) (xp : Int32) (xu : (Nat → Int32)) (xd : Int32) {H : Heap} {locs : List Loc} {ls : Array Slot} (hI : Inv yn yk yl yt yu ye yc yh xs xi xh xl xr xe xn xo) (hH : Hs D (fun q : Nat => s.heap.size ≤ q) s.heap (wMn cI cJ cQ ad yn ym yk yl yt yd yu ye yv yo y0 y1 yc yh ++ wMd cI bd xs xm xi xw xh xl xr xe xn xo xp xu xd) H locs) (hl : lv_has ls 4 [(0, .ref b), (1, .ref (ad 0)), (2, .ref (bd 0)), (3, .int (nI j))]) (NEXT : ∀ (yn : LandT) (ym : LandT) (yk : LandT) (yl : (Nat → Int32)) (yt : Int32) (yd : Int32) (yu : (Nat → Int32)) (ye : (Nat → Int32)) (yv : (Nat → Int32)) (yo : (Nat → Int64)) (y0 : (Nat → Int32)) (y1 : (Nat → Int32)) (yc : Int32) (yh : Int32) (xs : (Nat → Int32)) (xm : (Nat → Int32)) (xi : (Nat → Int32)) (xw : (Nat → Int32)) (xh : Int32) (xl : (Nat → Int32)) (xr : (Nat → Int32)) (xe : (Nat → Int32)) (xn : Int32) (xo : Int32) (xp : Int32) (xu : (Nat → Int32)) (xd : Int32) (H : Heap) (locs : List Loc) (ls : Array Slot), Inv yn yk yl yt yu ye yc yh xs xi xh xl xr xe xn xo → Hs D (fun q : Nat => s.heap.size ≤ q) s.heap (wMn cI cJ cQ ad yn ym yk yl yt yd yu ye yv yo y0 y1 yc yh ++ wMd cI bd xs xm xi xw xh xl xr xe xn xo xp xu xd) H locs → lv_has ls 4 [(0, .ref b), (1, .ref (ad 0)), (2, .ref (bd 0)), (3, .int (nI j))] → W p l e room_1 s m #[Value.ref b] below meth c H locs 44 733 (lw_Z below #[Value.ref b] s) (F0 m 1336 ls [])) : W p l e room_1 s m #[Value.ref b] below meth c H locs 44 733 (lw_Z below #[Value.ref b] s) (F0 m 523 ls []) := by
  obtain ⟨hx, hb, hml, hown, hts⟩ := id F
  have hA : ∀ q : Nat, s.heap.size ≤ q → (fun q : Nat => s.heap.size ≤ q) q := fun _ h => h
  have hbA : ¬ (fun q : Nat => s.heap.size ≤ q) b := Nat.not_le.mpr hbl
  obtain ⟨ra, rb, h1, h2, hr, hI⟩ := st_hours yn ym yk yl yt yd yu ye yv yo y0 y1 yc yh xs xm xi xw xh xl xr xe xn xo xp xu xd (xv (Int32.toNatClampNeg (nI j + 1))) hI
  refine lv_aload_n hx hb dL_law_523 rfl (lv_at hl 1 rfl) ?_
  refine lv_aload_n hx hb dL_law_524 rfl (lv_at hl 0 rfl) ?_
  refine lv_iload_n hx hb dL_law_525 rfl (lv_at hl 3 rfl) ?_
  refine lv_iconst (v := 1) hx hb dL_law_526 (by decide) ?_
  refine lv_iadd hx hb dL_law_527 ?_
  refine va_sld hx hb hX hbl hbA hH.2.2 (law_ix hN hj 1 (by decide)) dL_law_528 ?_
  refine k_ViL F hK hH hA hl.1 ⟨(Nat.le_of_ble_eq_true rfl), (Nat.le_of_ble_eq_true rfl)⟩ [.int (xv (Int32.toNatClampNeg (nI j + 1)))] [] (ctX3_hours ad yn ym yk yl yt yd yu ye yv yo y0 y1 yc yh (xv (Int32.toNatClampNeg (nI j + 1))) h1) (cwV 1 F.2.2.2.2 gL_law_X3_hours rfl rfl rfl hdVX3_hours ⟨(Nat.le_of_ble_eq_true rfl), (Nat.le_of_ble_eq_true rfl)⟩) dL_law_529 rfl rfl rfl rfl rfl (Nat.le_of_ble_eq_true rfl) rfl (fun H locs hH => ?_)
  have hH : Hs D (fun q : Nat => s.heap.size ≤ q) s.heap (wMn cI cJ cQ ad ra.2.1 ym yk yl yt yd yu ra.2.2 yv yo y0 y1 yc yh ++ wMd cI bd xs xm xi xw xh xl xr xe xn xo xp xu xd) H locs := hH
  refine lv_aload_n hx hb dL_law_532 rfl (lv_at hl 2 rfl) ?_
  refine lv_aload_n hx hb dL_law_533 rfl (lv_at hl 0 rfl) ?_
  refine lv_iload_n hx hb dL_law_534 rfl (lv_at hl 3 rfl) ?_
  refine lv_iconst (v := 1) hx hb dL_law_535 (by decide) ?_
  refine lv_iadd hx hb dL_law_536 ?_
  refine va_sld hx hb hX hbl hbA hH.2.2 (law_ix hN hj 1 (by decide)) dL_law_537 ?_
  refine k_ViR F hK hH hA hl.1 ⟨(Nat.le_of_ble_eq_true rfl), (Nat.le_of_ble_eq_true rfl)⟩ [.int (xv (Int32.toNatClampNeg (nI j + 1)))] [.int ra.1] (ctX4_hours bd xs xm xi xw xh xl xr xe xn xo xp xu xd (xv (Int32.toNatClampNeg (nI j + 1))) h2) (cwV 1 F.2.2.2.2 gL_law_X4_hours rfl rfl rfl hdVX4_hours ⟨(Nat.le_of_ble_eq_true rfl), (Nat.le_of_ble_eq_true rfl)⟩) dL_law_538 rfl rfl rfl rfl rfl (Nat.le_of_ble_eq_true rfl) rfl (fun H locs hH => ?_)
  have hH : Hs D (fun q : Nat => s.heap.size ≤ q) s.heap (wMn cI cJ cQ ad ra.2.1 ym yk yl yt yd yu ra.2.2 yv yo y0 y1 yc yh ++ wMd cI bd rb.2.1 xm xi xw xh xl xr rb.2.2 xn xo xp xu xd) H locs := hH
  refine lv_icmp_eq (tgt := 1336) hx hb dL_law_541 (by decide) (fun _ => ?_) (fun hc => ?_)
  · exact NEXT _ _ _ _ _ _ _ _ _ _ _ _ _ _ _ _ _ _ _ _ _ _ _ _ _ _ _ H locs ls hI hH hl
  · exact absurd hr hc

set_option maxHeartbeats 4000000 in
set_option maxRecDepth 100000 in
theorem law_c12 {p : Program} {l : Launch} {e : Env} {s : State} {m : MethodId} {below : List Frame} {meth : Method} {c : Code} {D : va_G} {cI cJ cQ : ClassId} {aK aV : Nat → Nat} {ad bd : Nat → Nat} {b N j : Nat} {xv : Nat → Int32} (F : CallFix p m c cL_law 4 s #[Value.ref b] wsL_law RL) (hK : KK D cI cJ cQ s) (hT : TXF aK aV (fun q : Nat => s.heap.size ≤ q) s s.heap) (hX : va_X b N xv s s.heap) (hbl : b < s.heap.size) (hN : N ≤ 3072) (hj : j + 6 ≤ N) (yn : LandT) (ym : LandT) (yk : LandT) (yl : (Nat → Int32)) (yt : Int32) (yd : Int32) (yu : (Nat → Int32)) (ye : (Nat → Int32)) (yv : (Nat → Int32)) (yo : (Nat → Int64)) (y0 : (Nat → Int32)) (y1 : (Nat → Int32)) (yc : Int32) (yh : Int32) (xs : (Nat → Int32)) (xm : (Nat → Int32)) (xi : (Nat → Int32)) (xw : (Nat → Int32)) (xh : Int32) (xl : (Nat → Int32)) (xr : (Nat → Int32)) (xe : (Nat → Int32)) (xn : Int32) (xo : Int32) (xp : Int32) (xu : (Nat → Int32)) (xd : Int32) {H : Heap} {locs : List Loc} {ls : Array Slot} (hI : Inv yn yk yl yt yu ye yc yh xs xi xh xl xr xe xn xo) (hH : Hs D (fun q : Nat => s.heap.size ≤ q) s.heap (wMn cI cJ cQ ad yn ym yk yl yt yd yu ye yv yo y0 y1 yc yh ++ wMd cI bd xs xm xi xw xh xl xr xe xn xo xp xu xd) H locs) (hl : lv_has ls 4 [(0, .ref b), (1, .ref (ad 0)), (2, .ref (bd 0)), (3, .int (nI j))]) (NEXT : ∀ (yn : LandT) (ym : LandT) (yk : LandT) (yl : (Nat → Int32)) (yt : Int32) (yd : Int32) (yu : (Nat → Int32)) (ye : (Nat → Int32)) (yv : (Nat → Int32)) (yo : (Nat → Int64)) (y0 : (Nat → Int32)) (y1 : (Nat → Int32)) (yc : Int32) (yh : Int32) (xs : (Nat → Int32)) (xm : (Nat → Int32)) (xi : (Nat → Int32)) (xw : (Nat → Int32)) (xh : Int32) (xl : (Nat → Int32)) (xr : (Nat → Int32)) (xe : (Nat → Int32)) (xn : Int32) (xo : Int32) (xp : Int32) (xu : (Nat → Int32)) (xd : Int32) (H : Heap) (locs : List Loc) (ls : Array Slot), Inv yn yk yl yt yu ye yc yh xs xi xh xl xr xe xn xo → Hs D (fun q : Nat => s.heap.size ≤ q) s.heap (wMn cI cJ cQ ad yn ym yk yl yt yd yu ye yv yo y0 y1 yc yh ++ wMd cI bd xs xm xi xw xh xl xr xe xn xo xp xu xd) H locs → lv_has ls 4 [(0, .ref b), (1, .ref (ad 0)), (2, .ref (bd 0)), (3, .int (nI j))] → W p l e room_1 s m #[Value.ref b] below meth c H locs 44 733 (lw_Z below #[Value.ref b] s) (F0 m 1336 ls [])) : W p l e room_1 s m #[Value.ref b] below meth c H locs 44 733 (lw_Z below #[Value.ref b] s) (F0 m 546 ls []) := by
  obtain ⟨hx, hb, hml, hown, hts⟩ := id F
  have hA : ∀ q : Nat, s.heap.size ≤ q → (fun q : Nat => s.heap.size ≤ q) q := fun _ h => h
  have hbA : ¬ (fun q : Nat => s.heap.size ≤ q) b := Nat.not_le.mpr hbl
  obtain ⟨ra, rb, h1, h2, hr, hI⟩ := st_seen yn ym yk yl yt yd yu ye yv yo y0 y1 yc yh xs xm xi xw xh xl xr xe xn xo xp xu xd (xv (Int32.toNatClampNeg (nI j + 1))) (xv (Int32.toNatClampNeg (nI j + 2))) hI
  refine lv_aload_n hx hb dL_law_546 rfl (lv_at hl 1 rfl) ?_
  refine lv_aload_n hx hb dL_law_547 rfl (lv_at hl 0 rfl) ?_
  refine lv_iload_n hx hb dL_law_548 rfl (lv_at hl 3 rfl) ?_
  refine lv_iconst (v := 1) hx hb dL_law_549 (by decide) ?_
  refine lv_iadd hx hb dL_law_550 ?_
  refine va_sld hx hb hX hbl hbA hH.2.2 (law_ix hN hj 1 (by decide)) dL_law_551 ?_
  refine lv_aload_n hx hb dL_law_552 rfl (lv_at hl 0 rfl) ?_
  refine lv_iload_n hx hb dL_law_553 rfl (lv_at hl 3 rfl) ?_
  refine lv_iconst (v := 2) hx hb dL_law_554 (by decide) ?_
  refine lv_iadd hx hb dL_law_555 ?_
  refine va_sld hx hb hX hbl hbA hH.2.2 (law_ix hN hj 2 (by decide)) dL_law_556 ?_
  refine k_ViL F hK hH hA hl.1 ⟨(Nat.le_of_ble_eq_true rfl), (Nat.le_of_ble_eq_true rfl)⟩ [.int (xv (Int32.toNatClampNeg (nI j + 1))), .int (xv (Int32.toNatClampNeg (nI j + 2)))] [] (ctX3_seen ad yn ym yk yl yt yd yu ye yv yo y0 y1 yc yh (xv (Int32.toNatClampNeg (nI j + 1))) (xv (Int32.toNatClampNeg (nI j + 2))) h1) (cwV 2 F.2.2.2.2 gL_law_X3_seen rfl rfl rfl hdVX3_seen ⟨(Nat.le_of_ble_eq_true rfl), (Nat.le_of_ble_eq_true rfl)⟩) dL_law_557 rfl rfl rfl rfl rfl (Nat.le_of_ble_eq_true rfl) rfl (fun H locs hH => ?_)
  have hH : Hs D (fun q : Nat => s.heap.size ≤ q) s.heap (wMn cI cJ cQ ad yn ym yk yl yt yd yu ra.2 yv yo y0 y1 yc yh ++ wMd cI bd xs xm xi xw xh xl xr xe xn xo xp xu xd) H locs := hH
  refine lv_aload_n hx hb dL_law_560 rfl (lv_at hl 2 rfl) ?_
  refine lv_aload_n hx hb dL_law_561 rfl (lv_at hl 0 rfl) ?_
  refine lv_iload_n hx hb dL_law_562 rfl (lv_at hl 3 rfl) ?_
  refine lv_iconst (v := 1) hx hb dL_law_563 (by decide) ?_
  refine lv_iadd hx hb dL_law_564 ?_
  refine va_sld hx hb hX hbl hbA hH.2.2 (law_ix hN hj 1 (by decide)) dL_law_565 ?_
  refine lv_aload_n hx hb dL_law_566 rfl (lv_at hl 0 rfl) ?_
  refine lv_iload_n hx hb dL_law_567 rfl (lv_at hl 3 rfl) ?_
  refine lv_iconst (v := 2) hx hb dL_law_568 (by decide) ?_
  refine lv_iadd hx hb dL_law_569 ?_
  refine va_sld hx hb hX hbl hbA hH.2.2 (law_ix hN hj 2 (by decide)) dL_law_570 ?_
  refine k_ViR F hK hH hA hl.1 ⟨(Nat.le_of_ble_eq_true rfl), (Nat.le_of_ble_eq_true rfl)⟩ [.int (xv (Int32.toNatClampNeg (nI j + 1))), .int (xv (Int32.toNatClampNeg (nI j + 2)))] [.int ra.1] (ctX4_seen bd xs xm xi xw xh xl xr xe xn xo xp xu xd (xv (Int32.toNatClampNeg (nI j + 1))) (xv (Int32.toNatClampNeg (nI j + 2))) h2) (cwV 2 F.2.2.2.2 gL_law_X4_seen rfl rfl rfl hdVX4_seen ⟨(Nat.le_of_ble_eq_true rfl), (Nat.le_of_ble_eq_true rfl)⟩) dL_law_571 rfl rfl rfl rfl rfl (Nat.le_of_ble_eq_true rfl) rfl (fun H locs hH => ?_)
  have hH : Hs D (fun q : Nat => s.heap.size ≤ q) s.heap (wMn cI cJ cQ ad yn ym yk yl yt yd yu ra.2 yv yo y0 y1 yc yh ++ wMd cI bd xs xm xi xw xh xl xr rb.2 xn xo xp xu xd) H locs := hH
  refine lv_icmp_eq (tgt := 1336) hx hb dL_law_574 (by decide) (fun _ => ?_) (fun hc => ?_)
  · exact NEXT _ _ _ _ _ _ _ _ _ _ _ _ _ _ _ _ _ _ _ _ _ _ _ _ _ _ _ H locs ls hI hH hl
  · exact absurd hr hc

set_option maxHeartbeats 4000000 in
set_option maxRecDepth 100000 in
theorem law_c13 {p : Program} {l : Launch} {e : Env} {s : State} {m : MethodId} {below : List Frame} {meth : Method} {c : Code} {D : va_G} {cI cJ cQ : ClassId} {aK aV : Nat → Nat} {ad bd : Nat → Nat} {b N j : Nat} {xv : Nat → Int32} (F : CallFix p m c cL_law 4 s #[Value.ref b] wsL_law RL) (hK : KK D cI cJ cQ s) (hT : TXF aK aV (fun q : Nat => s.heap.size ≤ q) s s.heap) (hX : va_X b N xv s s.heap) (hbl : b < s.heap.size) (hN : N ≤ 3072) (hj : j + 6 ≤ N) (yn : LandT) (ym : LandT) (yk : LandT) (yl : (Nat → Int32)) (yt : Int32) (yd : Int32) (yu : (Nat → Int32)) (ye : (Nat → Int32)) (yv : (Nat → Int32)) (yo : (Nat → Int64)) (y0 : (Nat → Int32)) (y1 : (Nat → Int32)) (yc : Int32) (yh : Int32) (xs : (Nat → Int32)) (xm : (Nat → Int32)) (xi : (Nat → Int32)) (xw : (Nat → Int32)) (xh : Int32) (xl : (Nat → Int32)) (xr : (Nat → Int32)) (xe : (Nat → Int32)) (xn : Int32) (xo : Int32) (xp : Int32) (xu : (Nat → Int32)) (xd : Int32) {H : Heap} {locs : List Loc} {ls : Array Slot} (hI : Inv yn yk yl yt yu ye yc yh xs xi xh xl xr xe xn xo) (hH : Hs D (fun q : Nat => s.heap.size ≤ q) s.heap (wMn cI cJ cQ ad yn ym yk yl yt yd yu ye yv yo y0 y1 yc yh ++ wMd cI bd xs xm xi xw xh xl xr xe xn xo xp xu xd) H locs) (hl : lv_has ls 4 [(0, .ref b), (1, .ref (ad 0)), (2, .ref (bd 0)), (3, .int (nI j))]) (NEXT : ∀ (yn : LandT) (ym : LandT) (yk : LandT) (yl : (Nat → Int32)) (yt : Int32) (yd : Int32) (yu : (Nat → Int32)) (ye : (Nat → Int32)) (yv : (Nat → Int32)) (yo : (Nat → Int64)) (y0 : (Nat → Int32)) (y1 : (Nat → Int32)) (yc : Int32) (yh : Int32) (xs : (Nat → Int32)) (xm : (Nat → Int32)) (xi : (Nat → Int32)) (xw : (Nat → Int32)) (xh : Int32) (xl : (Nat → Int32)) (xr : (Nat → Int32)) (xe : (Nat → Int32)) (xn : Int32) (xo : Int32) (xp : Int32) (xu : (Nat → Int32)) (xd : Int32) (H : Heap) (locs : List Loc) (ls : Array Slot), Inv yn yk yl yt yu ye yc yh xs xi xh xl xr xe xn xo → Hs D (fun q : Nat => s.heap.size ≤ q) s.heap (wMn cI cJ cQ ad yn ym yk yl yt yd yu ye yv yo y0 y1 yc yh ++ wMd cI bd xs xm xi xw xh xl xr xe xn xo xp xu xd) H locs → lv_has ls 4 [(0, .ref b), (1, .ref (ad 0)), (2, .ref (bd 0)), (3, .int (nI j))] → W p l e room_1 s m #[Value.ref b] below meth c H locs 44 733 (lw_Z below #[Value.ref b] s) (F0 m 1336 ls [])) : W p l e room_1 s m #[Value.ref b] below meth c H locs 44 733 (lw_Z below #[Value.ref b] s) (F0 m 579 ls []) := by
  obtain ⟨hx, hb, hml, hown, hts⟩ := id F
  have hA : ∀ q : Nat, s.heap.size ≤ q → (fun q : Nat => s.heap.size ≤ q) q := fun _ h => h
  have hbA : ¬ (fun q : Nat => s.heap.size ≤ q) b := Nat.not_le.mpr hbl
  obtain ⟨ra, rb, h1, h2, hr, hI⟩ := st_thingThen yn ym yk yl yt yd yu ye yv yo y0 y1 yc yh xs xm xi xw xh xl xr xe xn xo xp xu xd (xv (Int32.toNatClampNeg (nI j + 1))) (xv (Int32.toNatClampNeg (nI j + 2))) hI
  refine lv_aload_n hx hb dL_law_579 rfl (lv_at hl 1 rfl) ?_
  refine lv_aload_n hx hb dL_law_580 rfl (lv_at hl 0 rfl) ?_
  refine lv_iload_n hx hb dL_law_581 rfl (lv_at hl 3 rfl) ?_
  refine lv_iconst (v := 1) hx hb dL_law_582 (by decide) ?_
  refine lv_iadd hx hb dL_law_583 ?_
  refine va_sld hx hb hX hbl hbA hH.2.2 (law_ix hN hj 1 (by decide)) dL_law_584 ?_
  refine lv_aload_n hx hb dL_law_585 rfl (lv_at hl 0 rfl) ?_
  refine lv_iload_n hx hb dL_law_586 rfl (lv_at hl 3 rfl) ?_
  refine lv_iconst (v := 2) hx hb dL_law_587 (by decide) ?_
  refine lv_iadd hx hb dL_law_588 ?_
  refine va_sld hx hb hX hbl hbA hH.2.2 (law_ix hN hj 2 (by decide)) dL_law_589 ?_
  refine k_ViL F hK hH hA hl.1 ⟨(Nat.le_of_ble_eq_true rfl), (Nat.le_of_ble_eq_true rfl)⟩ [.int (xv (Int32.toNatClampNeg (nI j + 1))), .int (xv (Int32.toNatClampNeg (nI j + 2)))] [] (ctX3_thingThen ad yn ym yk yl yt yd yu ye yv yo y0 y1 yc yh (xv (Int32.toNatClampNeg (nI j + 1))) (xv (Int32.toNatClampNeg (nI j + 2))) h1) (cwV 2 F.2.2.2.2 gL_law_X3_thingThen rfl rfl rfl hdVX3_thingThen ⟨(Nat.le_of_ble_eq_true rfl), (Nat.le_of_ble_eq_true rfl)⟩) dL_law_590 rfl rfl rfl rfl rfl (Nat.le_of_ble_eq_true rfl) rfl (fun H locs hH => ?_)
  have hH : Hs D (fun q : Nat => s.heap.size ≤ q) s.heap (wMn cI cJ cQ ad yn ra.2.1 yk yl yt yd yu ra.2.2 yv yo y0 y1 yc yh ++ wMd cI bd xs xm xi xw xh xl xr xe xn xo xp xu xd) H locs := hH
  refine lv_aload_n hx hb dL_law_593 rfl (lv_at hl 2 rfl) ?_
  refine lv_aload_n hx hb dL_law_594 rfl (lv_at hl 0 rfl) ?_
  refine lv_iload_n hx hb dL_law_595 rfl (lv_at hl 3 rfl) ?_
  refine lv_iconst (v := 1) hx hb dL_law_596 (by decide) ?_
  refine lv_iadd hx hb dL_law_597 ?_
  refine va_sld hx hb hX hbl hbA hH.2.2 (law_ix hN hj 1 (by decide)) dL_law_598 ?_
  refine lv_aload_n hx hb dL_law_599 rfl (lv_at hl 0 rfl) ?_
  refine lv_iload_n hx hb dL_law_600 rfl (lv_at hl 3 rfl) ?_
  refine lv_iconst (v := 2) hx hb dL_law_601 (by decide) ?_
  refine lv_iadd hx hb dL_law_602 ?_
  refine va_sld hx hb hX hbl hbA hH.2.2 (law_ix hN hj 2 (by decide)) dL_law_603 ?_
  refine k_ViR F hK hH hA hl.1 ⟨(Nat.le_of_ble_eq_true rfl), (Nat.le_of_ble_eq_true rfl)⟩ [.int (xv (Int32.toNatClampNeg (nI j + 1))), .int (xv (Int32.toNatClampNeg (nI j + 2)))] [.int ra.1] (ctX4_thingThen bd xs xm xi xw xh xl xr xe xn xo xp xu xd (xv (Int32.toNatClampNeg (nI j + 1))) (xv (Int32.toNatClampNeg (nI j + 2))) h2) (cwV 2 F.2.2.2.2 gL_law_X4_thingThen rfl rfl rfl hdVX4_thingThen ⟨(Nat.le_of_ble_eq_true rfl), (Nat.le_of_ble_eq_true rfl)⟩) dL_law_604 rfl rfl rfl rfl rfl (Nat.le_of_ble_eq_true rfl) rfl (fun H locs hH => ?_)
  have hH : Hs D (fun q : Nat => s.heap.size ≤ q) s.heap (wMn cI cJ cQ ad yn ra.2.1 yk yl yt yd yu ra.2.2 yv yo y0 y1 yc yh ++ wMd cI bd xs rb.2.1 xi xw xh xl xr rb.2.2 xn xo xp xu xd) H locs := hH
  refine lv_icmp_eq (tgt := 1336) hx hb dL_law_607 (by decide) (fun _ => ?_) (fun hc => ?_)
  · exact NEXT _ _ _ _ _ _ _ _ _ _ _ _ _ _ _ _ _ _ _ _ _ _ _ _ _ _ _ H locs ls hI hH hl
  · exact absurd hr hc

set_option maxHeartbeats 4000000 in
set_option maxRecDepth 100000 in
theorem law_c14 {p : Program} {l : Launch} {e : Env} {s : State} {m : MethodId} {below : List Frame} {meth : Method} {c : Code} {D : va_G} {cI cJ cQ : ClassId} {aK aV : Nat → Nat} {ad bd : Nat → Nat} {b N j : Nat} {xv : Nat → Int32} (F : CallFix p m c cL_law 4 s #[Value.ref b] wsL_law RL) (hK : KK D cI cJ cQ s) (hT : TXF aK aV (fun q : Nat => s.heap.size ≤ q) s s.heap) (hX : va_X b N xv s s.heap) (hbl : b < s.heap.size) (hN : N ≤ 3072) (hj : j + 6 ≤ N) (yn : LandT) (ym : LandT) (yk : LandT) (yl : (Nat → Int32)) (yt : Int32) (yd : Int32) (yu : (Nat → Int32)) (ye : (Nat → Int32)) (yv : (Nat → Int32)) (yo : (Nat → Int64)) (y0 : (Nat → Int32)) (y1 : (Nat → Int32)) (yc : Int32) (yh : Int32) (xs : (Nat → Int32)) (xm : (Nat → Int32)) (xi : (Nat → Int32)) (xw : (Nat → Int32)) (xh : Int32) (xl : (Nat → Int32)) (xr : (Nat → Int32)) (xe : (Nat → Int32)) (xn : Int32) (xo : Int32) (xp : Int32) (xu : (Nat → Int32)) (xd : Int32) {H : Heap} {locs : List Loc} {ls : Array Slot} (hI : Inv yn yk yl yt yu ye yc yh xs xi xh xl xr xe xn xo) (hH : Hs D (fun q : Nat => s.heap.size ≤ q) s.heap (wMn cI cJ cQ ad yn ym yk yl yt yd yu ye yv yo y0 y1 yc yh ++ wMd cI bd xs xm xi xw xh xl xr xe xn xo xp xu xd) H locs) (hl : lv_has ls 4 [(0, .ref b), (1, .ref (ad 0)), (2, .ref (bd 0)), (3, .int (nI j))]) (NEXT : ∀ (yn : LandT) (ym : LandT) (yk : LandT) (yl : (Nat → Int32)) (yt : Int32) (yd : Int32) (yu : (Nat → Int32)) (ye : (Nat → Int32)) (yv : (Nat → Int32)) (yo : (Nat → Int64)) (y0 : (Nat → Int32)) (y1 : (Nat → Int32)) (yc : Int32) (yh : Int32) (xs : (Nat → Int32)) (xm : (Nat → Int32)) (xi : (Nat → Int32)) (xw : (Nat → Int32)) (xh : Int32) (xl : (Nat → Int32)) (xr : (Nat → Int32)) (xe : (Nat → Int32)) (xn : Int32) (xo : Int32) (xp : Int32) (xu : (Nat → Int32)) (xd : Int32) (H : Heap) (locs : List Loc) (ls : Array Slot), Inv yn yk yl yt yu ye yc yh xs xi xh xl xr xe xn xo → Hs D (fun q : Nat => s.heap.size ≤ q) s.heap (wMn cI cJ cQ ad yn ym yk yl yt yd yu ye yv yo y0 y1 yc yh ++ wMd cI bd xs xm xi xw xh xl xr xe xn xo xp xu xd) H locs → lv_has ls 4 [(0, .ref b), (1, .ref (ad 0)), (2, .ref (bd 0)), (3, .int (nI j))] → W p l e room_1 s m #[Value.ref b] below meth c H locs 44 733 (lw_Z below #[Value.ref b] s) (F0 m 1336 ls [])) : W p l e room_1 s m #[Value.ref b] below meth c H locs 44 733 (lw_Z below #[Value.ref b] s) (F0 m 612 ls []) := by
  obtain ⟨hx, hb, hml, hown, hts⟩ := id F
  have hA : ∀ q : Nat, s.heap.size ≤ q → (fun q : Nat => s.heap.size ≤ q) q := fun _ h => h
  have hbA : ¬ (fun q : Nat => s.heap.size ≤ q) b := Nat.not_le.mpr hbl
  obtain ⟨ra, rb, h1, h2, hr, hI⟩ := st_seenThen yn ym yk yl yt yd yu ye yv yo y0 y1 yc yh xs xm xi xw xh xl xr xe xn xo xp xu xd (xv (Int32.toNatClampNeg (nI j + 1))) (xv (Int32.toNatClampNeg (nI j + 2))) (xv (Int32.toNatClampNeg (nI j + 3))) hI
  refine lv_aload_n hx hb dL_law_612 rfl (lv_at hl 1 rfl) ?_
  refine lv_aload_n hx hb dL_law_613 rfl (lv_at hl 0 rfl) ?_
  refine lv_iload_n hx hb dL_law_614 rfl (lv_at hl 3 rfl) ?_
  refine lv_iconst (v := 1) hx hb dL_law_615 (by decide) ?_
  refine lv_iadd hx hb dL_law_616 ?_
  refine va_sld hx hb hX hbl hbA hH.2.2 (law_ix hN hj 1 (by decide)) dL_law_617 ?_
  refine lv_aload_n hx hb dL_law_618 rfl (lv_at hl 0 rfl) ?_
  refine lv_iload_n hx hb dL_law_619 rfl (lv_at hl 3 rfl) ?_
  refine lv_iconst (v := 2) hx hb dL_law_620 (by decide) ?_
  refine lv_iadd hx hb dL_law_621 ?_
  refine va_sld hx hb hX hbl hbA hH.2.2 (law_ix hN hj 2 (by decide)) dL_law_622 ?_
  refine lv_aload_n hx hb dL_law_623 rfl (lv_at hl 0 rfl) ?_
  refine lv_iload_n hx hb dL_law_624 rfl (lv_at hl 3 rfl) ?_
  refine lv_iconst (v := 3) hx hb dL_law_625 (by decide) ?_
  refine lv_iadd hx hb dL_law_626 ?_
  refine va_sld hx hb hX hbl hbA hH.2.2 (law_ix hN hj 3 (by decide)) dL_law_627 ?_
  refine k_ViL F hK hH hA hl.1 ⟨(Nat.le_of_ble_eq_true rfl), (Nat.le_of_ble_eq_true rfl)⟩ [.int (xv (Int32.toNatClampNeg (nI j + 1))), .int (xv (Int32.toNatClampNeg (nI j + 2))), .int (xv (Int32.toNatClampNeg (nI j + 3)))] [] (ctX3_seenThen ad yn ym yk yl yt yd yu ye yv yo y0 y1 yc yh (xv (Int32.toNatClampNeg (nI j + 1))) (xv (Int32.toNatClampNeg (nI j + 2))) (xv (Int32.toNatClampNeg (nI j + 3))) h1) (cwV 3 F.2.2.2.2 gL_law_X3_seenThen rfl rfl rfl hdVX3_seenThen ⟨(Nat.le_of_ble_eq_true rfl), (Nat.le_of_ble_eq_true rfl)⟩) dL_law_628 rfl rfl rfl rfl rfl (Nat.le_of_ble_eq_true rfl) rfl (fun H locs hH => ?_)
  have hH : Hs D (fun q : Nat => s.heap.size ≤ q) s.heap (wMn cI cJ cQ ad yn ra.2.1 yk yl yt yd yu ra.2.2 yv yo y0 y1 yc yh ++ wMd cI bd xs xm xi xw xh xl xr xe xn xo xp xu xd) H locs := hH
  refine lv_aload_n hx hb dL_law_631 rfl (lv_at hl 2 rfl) ?_
  refine lv_aload_n hx hb dL_law_632 rfl (lv_at hl 0 rfl) ?_
  refine lv_iload_n hx hb dL_law_633 rfl (lv_at hl 3 rfl) ?_
  refine lv_iconst (v := 1) hx hb dL_law_634 (by decide) ?_
  refine lv_iadd hx hb dL_law_635 ?_
  refine va_sld hx hb hX hbl hbA hH.2.2 (law_ix hN hj 1 (by decide)) dL_law_636 ?_
  refine lv_aload_n hx hb dL_law_637 rfl (lv_at hl 0 rfl) ?_
  refine lv_iload_n hx hb dL_law_638 rfl (lv_at hl 3 rfl) ?_
  refine lv_iconst (v := 2) hx hb dL_law_639 (by decide) ?_
  refine lv_iadd hx hb dL_law_640 ?_
  refine va_sld hx hb hX hbl hbA hH.2.2 (law_ix hN hj 2 (by decide)) dL_law_641 ?_
  refine lv_aload_n hx hb dL_law_642 rfl (lv_at hl 0 rfl) ?_
  refine lv_iload_n hx hb dL_law_643 rfl (lv_at hl 3 rfl) ?_
  refine lv_iconst (v := 3) hx hb dL_law_644 (by decide) ?_
  refine lv_iadd hx hb dL_law_645 ?_
  refine va_sld hx hb hX hbl hbA hH.2.2 (law_ix hN hj 3 (by decide)) dL_law_646 ?_
  refine k_ViR F hK hH hA hl.1 ⟨(Nat.le_of_ble_eq_true rfl), (Nat.le_of_ble_eq_true rfl)⟩ [.int (xv (Int32.toNatClampNeg (nI j + 1))), .int (xv (Int32.toNatClampNeg (nI j + 2))), .int (xv (Int32.toNatClampNeg (nI j + 3)))] [.int ra.1] (ctX4_seenThen bd xs xm xi xw xh xl xr xe xn xo xp xu xd (xv (Int32.toNatClampNeg (nI j + 1))) (xv (Int32.toNatClampNeg (nI j + 2))) (xv (Int32.toNatClampNeg (nI j + 3))) h2) (cwV 3 F.2.2.2.2 gL_law_X4_seenThen rfl rfl rfl hdVX4_seenThen ⟨(Nat.le_of_ble_eq_true rfl), (Nat.le_of_ble_eq_true rfl)⟩) dL_law_647 rfl rfl rfl rfl rfl (Nat.le_of_ble_eq_true rfl) rfl (fun H locs hH => ?_)
  have hH : Hs D (fun q : Nat => s.heap.size ≤ q) s.heap (wMn cI cJ cQ ad yn ra.2.1 yk yl yt yd yu ra.2.2 yv yo y0 y1 yc yh ++ wMd cI bd xs rb.2.1 xi xw xh xl xr rb.2.2 xn xo xp xu xd) H locs := hH
  refine lv_icmp_eq (tgt := 1336) hx hb dL_law_650 (by decide) (fun _ => ?_) (fun hc => ?_)
  · exact NEXT _ _ _ _ _ _ _ _ _ _ _ _ _ _ _ _ _ _ _ _ _ _ _ _ _ _ _ H locs ls hI hH hl
  · exact absurd hr hc

set_option maxHeartbeats 4000000 in
set_option maxRecDepth 100000 in
theorem law_c15 {p : Program} {l : Launch} {e : Env} {s : State} {m : MethodId} {below : List Frame} {meth : Method} {c : Code} {D : va_G} {cI cJ cQ : ClassId} {aK aV : Nat → Nat} {ad bd : Nat → Nat} {b N j : Nat} {xv : Nat → Int32} (F : CallFix p m c cL_law 4 s #[Value.ref b] wsL_law RL) (hK : KK D cI cJ cQ s) (hT : TXF aK aV (fun q : Nat => s.heap.size ≤ q) s s.heap) (hX : va_X b N xv s s.heap) (hbl : b < s.heap.size) (hN : N ≤ 3072) (hj : j + 6 ≤ N) (yn : LandT) (ym : LandT) (yk : LandT) (yl : (Nat → Int32)) (yt : Int32) (yd : Int32) (yu : (Nat → Int32)) (ye : (Nat → Int32)) (yv : (Nat → Int32)) (yo : (Nat → Int64)) (y0 : (Nat → Int32)) (y1 : (Nat → Int32)) (yc : Int32) (yh : Int32) (xs : (Nat → Int32)) (xm : (Nat → Int32)) (xi : (Nat → Int32)) (xw : (Nat → Int32)) (xh : Int32) (xl : (Nat → Int32)) (xr : (Nat → Int32)) (xe : (Nat → Int32)) (xn : Int32) (xo : Int32) (xp : Int32) (xu : (Nat → Int32)) (xd : Int32) {H : Heap} {locs : List Loc} {ls : Array Slot} (hI : Inv yn yk yl yt yu ye yc yh xs xi xh xl xr xe xn xo) (hH : Hs D (fun q : Nat => s.heap.size ≤ q) s.heap (wMn cI cJ cQ ad yn ym yk yl yt yd yu ye yv yo y0 y1 yc yh ++ wMd cI bd xs xm xi xw xh xl xr xe xn xo xp xu xd) H locs) (hl : lv_has ls 4 [(0, .ref b), (1, .ref (ad 0)), (2, .ref (bd 0)), (3, .int (nI j))]) (NEXT : ∀ (yn : LandT) (ym : LandT) (yk : LandT) (yl : (Nat → Int32)) (yt : Int32) (yd : Int32) (yu : (Nat → Int32)) (ye : (Nat → Int32)) (yv : (Nat → Int32)) (yo : (Nat → Int64)) (y0 : (Nat → Int32)) (y1 : (Nat → Int32)) (yc : Int32) (yh : Int32) (xs : (Nat → Int32)) (xm : (Nat → Int32)) (xi : (Nat → Int32)) (xw : (Nat → Int32)) (xh : Int32) (xl : (Nat → Int32)) (xr : (Nat → Int32)) (xe : (Nat → Int32)) (xn : Int32) (xo : Int32) (xp : Int32) (xu : (Nat → Int32)) (xd : Int32) (H : Heap) (locs : List Loc) (ls : Array Slot), Inv yn yk yl yt yu ye yc yh xs xi xh xl xr xe xn xo → Hs D (fun q : Nat => s.heap.size ≤ q) s.heap (wMn cI cJ cQ ad yn ym yk yl yt yd yu ye yv yo y0 y1 yc yh ++ wMd cI bd xs xm xi xw xh xl xr xe xn xo xp xu xd) H locs → lv_has ls 4 [(0, .ref b), (1, .ref (ad 0)), (2, .ref (bd 0)), (3, .int (nI j))] → W p l e room_1 s m #[Value.ref b] below meth c H locs 44 733 (lw_Z below #[Value.ref b] s) (F0 m 1336 ls [])) : W p l e room_1 s m #[Value.ref b] below meth c H locs 44 733 (lw_Z below #[Value.ref b] s) (F0 m 655 ls []) := by
  obtain ⟨hx, hb, hml, hown, hts⟩ := id F
  have hA : ∀ q : Nat, s.heap.size ≤ q → (fun q : Nat => s.heap.size ≤ q) q := fun _ h => h
  have hbA : ¬ (fun q : Nat => s.heap.size ≤ q) b := Nat.not_le.mpr hbl
  obtain ⟨ra, rb, h1, h2, hr, hI⟩ := st_falls yn ym yk yl yt yd yu ye yv yo y0 y1 yc yh xs xm xi xw xh xl xr xe xn xo xp xu xd (xv (Int32.toNatClampNeg (nI j + 1))) (xv (Int32.toNatClampNeg (nI j + 2))) hI
  refine lv_aload_n hx hb dL_law_655 rfl (lv_at hl 1 rfl) ?_
  refine lv_aload_n hx hb dL_law_656 rfl (lv_at hl 0 rfl) ?_
  refine lv_iload_n hx hb dL_law_657 rfl (lv_at hl 3 rfl) ?_
  refine lv_iconst (v := 1) hx hb dL_law_658 (by decide) ?_
  refine lv_iadd hx hb dL_law_659 ?_
  refine va_sld hx hb hX hbl hbA hH.2.2 (law_ix hN hj 1 (by decide)) dL_law_660 ?_
  refine lv_aload_n hx hb dL_law_661 rfl (lv_at hl 0 rfl) ?_
  refine lv_iload_n hx hb dL_law_662 rfl (lv_at hl 3 rfl) ?_
  refine lv_iconst (v := 2) hx hb dL_law_663 (by decide) ?_
  refine lv_iadd hx hb dL_law_664 ?_
  refine va_sld hx hb hX hbl hbA hH.2.2 (law_ix hN hj 2 (by decide)) dL_law_665 ?_
  refine k_ViL F hK hH hA hl.1 ⟨(Nat.le_of_ble_eq_true rfl), (Nat.le_of_ble_eq_true rfl)⟩ [.int (xv (Int32.toNatClampNeg (nI j + 1))), .int (xv (Int32.toNatClampNeg (nI j + 2)))] [] (ctX3_falls ad yn ym yk yl yt yd yu ye yv yo y0 y1 yc yh (xv (Int32.toNatClampNeg (nI j + 1))) (xv (Int32.toNatClampNeg (nI j + 2))) h1) (cwV 2 F.2.2.2.2 gL_law_X3_falls rfl rfl rfl hdVX3_falls ⟨(Nat.le_of_ble_eq_true rfl), (Nat.le_of_ble_eq_true rfl)⟩) dL_law_666 rfl rfl rfl rfl rfl (Nat.le_of_ble_eq_true rfl) rfl (fun H locs hH => ?_)
  have hH : Hs D (fun q : Nat => s.heap.size ≤ q) s.heap (wMn cI cJ cQ ad yn ra.2.1 yk yl yt yd yu ra.2.2 yv yo y0 y1 yc yh ++ wMd cI bd xs xm xi xw xh xl xr xe xn xo xp xu xd) H locs := hH
  refine lv_aload_n hx hb dL_law_669 rfl (lv_at hl 2 rfl) ?_
  refine lv_aload_n hx hb dL_law_670 rfl (lv_at hl 0 rfl) ?_
  refine lv_iload_n hx hb dL_law_671 rfl (lv_at hl 3 rfl) ?_
  refine lv_iconst (v := 1) hx hb dL_law_672 (by decide) ?_
  refine lv_iadd hx hb dL_law_673 ?_
  refine va_sld hx hb hX hbl hbA hH.2.2 (law_ix hN hj 1 (by decide)) dL_law_674 ?_
  refine lv_aload_n hx hb dL_law_675 rfl (lv_at hl 0 rfl) ?_
  refine lv_iload_n hx hb dL_law_676 rfl (lv_at hl 3 rfl) ?_
  refine lv_iconst (v := 2) hx hb dL_law_677 (by decide) ?_
  refine lv_iadd hx hb dL_law_678 ?_
  refine va_sld hx hb hX hbl hbA hH.2.2 (law_ix hN hj 2 (by decide)) dL_law_679 ?_
  refine k_ViR F hK hH hA hl.1 ⟨(Nat.le_of_ble_eq_true rfl), (Nat.le_of_ble_eq_true rfl)⟩ [.int (xv (Int32.toNatClampNeg (nI j + 1))), .int (xv (Int32.toNatClampNeg (nI j + 2)))] [.int ra.1] (ctX4_falls bd xs xm xi xw xh xl xr xe xn xo xp xu xd (xv (Int32.toNatClampNeg (nI j + 1))) (xv (Int32.toNatClampNeg (nI j + 2))) h2) (cwV 2 F.2.2.2.2 gL_law_X4_falls rfl rfl rfl hdVX4_falls ⟨(Nat.le_of_ble_eq_true rfl), (Nat.le_of_ble_eq_true rfl)⟩) dL_law_680 rfl rfl rfl rfl rfl (Nat.le_of_ble_eq_true rfl) rfl (fun H locs hH => ?_)
  have hH : Hs D (fun q : Nat => s.heap.size ≤ q) s.heap (wMn cI cJ cQ ad yn ra.2.1 yk yl yt yd yu ra.2.2 yv yo y0 y1 yc yh ++ wMd cI bd xs rb.2.1 xi xw xh xl xr rb.2.2 xn xo xp xu xd) H locs := hH
  refine lv_icmp_eq (tgt := 1336) hx hb dL_law_683 (by decide) (fun _ => ?_) (fun hc => ?_)
  · exact NEXT _ _ _ _ _ _ _ _ _ _ _ _ _ _ _ _ _ _ _ _ _ _ _ _ _ _ _ H locs ls hI hH hl
  · exact absurd hr hc

set_option maxHeartbeats 4000000 in
set_option maxRecDepth 100000 in
theorem law_c16 {p : Program} {l : Launch} {e : Env} {s : State} {m : MethodId} {below : List Frame} {meth : Method} {c : Code} {D : va_G} {cI cJ cQ : ClassId} {aK aV : Nat → Nat} {ad bd : Nat → Nat} {b N j : Nat} {xv : Nat → Int32} (F : CallFix p m c cL_law 4 s #[Value.ref b] wsL_law RL) (hK : KK D cI cJ cQ s) (hT : TXF aK aV (fun q : Nat => s.heap.size ≤ q) s s.heap) (hX : va_X b N xv s s.heap) (hbl : b < s.heap.size) (hN : N ≤ 3072) (hj : j + 6 ≤ N) (yn : LandT) (ym : LandT) (yk : LandT) (yl : (Nat → Int32)) (yt : Int32) (yd : Int32) (yu : (Nat → Int32)) (ye : (Nat → Int32)) (yv : (Nat → Int32)) (yo : (Nat → Int64)) (y0 : (Nat → Int32)) (y1 : (Nat → Int32)) (yc : Int32) (yh : Int32) (xs : (Nat → Int32)) (xm : (Nat → Int32)) (xi : (Nat → Int32)) (xw : (Nat → Int32)) (xh : Int32) (xl : (Nat → Int32)) (xr : (Nat → Int32)) (xe : (Nat → Int32)) (xn : Int32) (xo : Int32) (xp : Int32) (xu : (Nat → Int32)) (xd : Int32) {H : Heap} {locs : List Loc} {ls : Array Slot} (hI : Inv yn yk yl yt yu ye yc yh xs xi xh xl xr xe xn xo) (hH : Hs D (fun q : Nat => s.heap.size ≤ q) s.heap (wMn cI cJ cQ ad yn ym yk yl yt yd yu ye yv yo y0 y1 yc yh ++ wMd cI bd xs xm xi xw xh xl xr xe xn xo xp xu xd) H locs) (hl : lv_has ls 4 [(0, .ref b), (1, .ref (ad 0)), (2, .ref (bd 0)), (3, .int (nI j))]) (NEXT : ∀ (yn : LandT) (ym : LandT) (yk : LandT) (yl : (Nat → Int32)) (yt : Int32) (yd : Int32) (yu : (Nat → Int32)) (ye : (Nat → Int32)) (yv : (Nat → Int32)) (yo : (Nat → Int64)) (y0 : (Nat → Int32)) (y1 : (Nat → Int32)) (yc : Int32) (yh : Int32) (xs : (Nat → Int32)) (xm : (Nat → Int32)) (xi : (Nat → Int32)) (xw : (Nat → Int32)) (xh : Int32) (xl : (Nat → Int32)) (xr : (Nat → Int32)) (xe : (Nat → Int32)) (xn : Int32) (xo : Int32) (xp : Int32) (xu : (Nat → Int32)) (xd : Int32) (H : Heap) (locs : List Loc) (ls : Array Slot), Inv yn yk yl yt yu ye yc yh xs xi xh xl xr xe xn xo → Hs D (fun q : Nat => s.heap.size ≤ q) s.heap (wMn cI cJ cQ ad yn ym yk yl yt yd yu ye yv yo y0 y1 yc yh ++ wMd cI bd xs xm xi xw xh xl xr xe xn xo xp xu xd) H locs → lv_has ls 4 [(0, .ref b), (1, .ref (ad 0)), (2, .ref (bd 0)), (3, .int (nI j))] → W p l e room_1 s m #[Value.ref b] below meth c H locs 44 733 (lw_Z below #[Value.ref b] s) (F0 m 1336 ls [])) : W p l e room_1 s m #[Value.ref b] below meth c H locs 44 733 (lw_Z below #[Value.ref b] s) (F0 m 688 ls []) := by
  obtain ⟨hx, hb, hml, hown, hts⟩ := id F
  have hA : ∀ q : Nat, s.heap.size ≤ q → (fun q : Nat => s.heap.size ≤ q) q := fun _ h => h
  have hbA : ¬ (fun q : Nat => s.heap.size ≤ q) b := Nat.not_le.mpr hbl
  obtain ⟨ra, rb, h1, h2, hr, hI⟩ := st_sight yn ym yk yl yt yd yu ye yv yo y0 y1 yc yh xs xm xi xw xh xl xr xe xn xo xp xu xd (xv (Int32.toNatClampNeg (nI j + 1))) (xv (Int32.toNatClampNeg (nI j + 2))) (xv (Int32.toNatClampNeg (nI j + 3))) hI
  refine lv_aload_n hx hb dL_law_688 rfl (lv_at hl 1 rfl) ?_
  refine lv_aload_n hx hb dL_law_689 rfl (lv_at hl 0 rfl) ?_
  refine lv_iload_n hx hb dL_law_690 rfl (lv_at hl 3 rfl) ?_
  refine lv_iconst (v := 1) hx hb dL_law_691 (by decide) ?_
  refine lv_iadd hx hb dL_law_692 ?_
  refine va_sld hx hb hX hbl hbA hH.2.2 (law_ix hN hj 1 (by decide)) dL_law_693 ?_
  refine lv_aload_n hx hb dL_law_694 rfl (lv_at hl 0 rfl) ?_
  refine lv_iload_n hx hb dL_law_695 rfl (lv_at hl 3 rfl) ?_
  refine lv_iconst (v := 2) hx hb dL_law_696 (by decide) ?_
  refine lv_iadd hx hb dL_law_697 ?_
  refine va_sld hx hb hX hbl hbA hH.2.2 (law_ix hN hj 2 (by decide)) dL_law_698 ?_
  refine lv_aload_n hx hb dL_law_699 rfl (lv_at hl 0 rfl) ?_
  refine lv_iload_n hx hb dL_law_700 rfl (lv_at hl 3 rfl) ?_
  refine lv_iconst (v := 3) hx hb dL_law_701 (by decide) ?_
  refine lv_iadd hx hb dL_law_702 ?_
  refine va_sld hx hb hX hbl hbA hH.2.2 (law_ix hN hj 3 (by decide)) dL_law_703 ?_
  refine k_ViL F hK hH hA hl.1 ⟨(Nat.le_of_ble_eq_true rfl), (Nat.le_of_ble_eq_true rfl)⟩ [.int (xv (Int32.toNatClampNeg (nI j + 1))), .int (xv (Int32.toNatClampNeg (nI j + 2))), .int (xv (Int32.toNatClampNeg (nI j + 3)))] [] (ctX3_sight ad yn ym yk yl yt yd yu ye yv yo y0 y1 yc yh (xv (Int32.toNatClampNeg (nI j + 1))) (xv (Int32.toNatClampNeg (nI j + 2))) (xv (Int32.toNatClampNeg (nI j + 3))) h1) (cwV 3 F.2.2.2.2 gL_law_X3_sight rfl rfl rfl hdVX3_sight ⟨(Nat.le_of_ble_eq_true rfl), (Nat.le_of_ble_eq_true rfl)⟩) dL_law_704 rfl rfl rfl rfl rfl (Nat.le_of_ble_eq_true rfl) rfl (fun H locs hH => ?_)
  have hH : Hs D (fun q : Nat => s.heap.size ≤ q) s.heap (wMn cI cJ cQ ad yn ra.2.1 yk yl yt yd yu ra.2.2 yv yo y0 y1 yc yh ++ wMd cI bd xs xm xi xw xh xl xr xe xn xo xp xu xd) H locs := hH
  refine lv_aload_n hx hb dL_law_707 rfl (lv_at hl 2 rfl) ?_
  refine lv_aload_n hx hb dL_law_708 rfl (lv_at hl 0 rfl) ?_
  refine lv_iload_n hx hb dL_law_709 rfl (lv_at hl 3 rfl) ?_
  refine lv_iconst (v := 1) hx hb dL_law_710 (by decide) ?_
  refine lv_iadd hx hb dL_law_711 ?_
  refine va_sld hx hb hX hbl hbA hH.2.2 (law_ix hN hj 1 (by decide)) dL_law_712 ?_
  refine lv_aload_n hx hb dL_law_713 rfl (lv_at hl 0 rfl) ?_
  refine lv_iload_n hx hb dL_law_714 rfl (lv_at hl 3 rfl) ?_
  refine lv_iconst (v := 2) hx hb dL_law_715 (by decide) ?_
  refine lv_iadd hx hb dL_law_716 ?_
  refine va_sld hx hb hX hbl hbA hH.2.2 (law_ix hN hj 2 (by decide)) dL_law_717 ?_
  refine lv_aload_n hx hb dL_law_718 rfl (lv_at hl 0 rfl) ?_
  refine lv_iload_n hx hb dL_law_719 rfl (lv_at hl 3 rfl) ?_
  refine lv_iconst (v := 3) hx hb dL_law_720 (by decide) ?_
  refine lv_iadd hx hb dL_law_721 ?_
  refine va_sld hx hb hX hbl hbA hH.2.2 (law_ix hN hj 3 (by decide)) dL_law_722 ?_
  refine k_ViR F hK hH hA hl.1 ⟨(Nat.le_of_ble_eq_true rfl), (Nat.le_of_ble_eq_true rfl)⟩ [.int (xv (Int32.toNatClampNeg (nI j + 1))), .int (xv (Int32.toNatClampNeg (nI j + 2))), .int (xv (Int32.toNatClampNeg (nI j + 3)))] [.int ra.1] (ctX4_sight bd xs xm xi xw xh xl xr xe xn xo xp xu xd (xv (Int32.toNatClampNeg (nI j + 1))) (xv (Int32.toNatClampNeg (nI j + 2))) (xv (Int32.toNatClampNeg (nI j + 3))) h2) (cwV 3 F.2.2.2.2 gL_law_X4_sight rfl rfl rfl hdVX4_sight ⟨(Nat.le_of_ble_eq_true rfl), (Nat.le_of_ble_eq_true rfl)⟩) dL_law_723 rfl rfl rfl rfl rfl (Nat.le_of_ble_eq_true rfl) rfl (fun H locs hH => ?_)
  have hH : Hs D (fun q : Nat => s.heap.size ≤ q) s.heap (wMn cI cJ cQ ad yn ra.2.1 yk yl yt yd yu ra.2.2 yv yo y0 y1 yc yh ++ wMd cI bd xs rb.2.1 xi xw xh xl xr rb.2.2 xn xo xp xu xd) H locs := hH
  refine lv_icmp_eq (tgt := 1336) hx hb dL_law_726 (by decide) (fun _ => ?_) (fun hc => ?_)
  · exact NEXT _ _ _ _ _ _ _ _ _ _ _ _ _ _ _ _ _ _ _ _ _ _ _ _ _ _ _ H locs ls hI hH hl
  · exact absurd hr hc

set_option maxHeartbeats 4000000 in
set_option maxRecDepth 100000 in
theorem law_c17 {p : Program} {l : Launch} {e : Env} {s : State} {m : MethodId} {below : List Frame} {meth : Method} {c : Code} {D : va_G} {cI cJ cQ : ClassId} {aK aV : Nat → Nat} {ad bd : Nat → Nat} {b N j : Nat} {xv : Nat → Int32} (F : CallFix p m c cL_law 4 s #[Value.ref b] wsL_law RL) (hK : KK D cI cJ cQ s) (hT : TXF aK aV (fun q : Nat => s.heap.size ≤ q) s s.heap) (hX : va_X b N xv s s.heap) (hbl : b < s.heap.size) (hN : N ≤ 3072) (hj : j + 6 ≤ N) (yn : LandT) (ym : LandT) (yk : LandT) (yl : (Nat → Int32)) (yt : Int32) (yd : Int32) (yu : (Nat → Int32)) (ye : (Nat → Int32)) (yv : (Nat → Int32)) (yo : (Nat → Int64)) (y0 : (Nat → Int32)) (y1 : (Nat → Int32)) (yc : Int32) (yh : Int32) (xs : (Nat → Int32)) (xm : (Nat → Int32)) (xi : (Nat → Int32)) (xw : (Nat → Int32)) (xh : Int32) (xl : (Nat → Int32)) (xr : (Nat → Int32)) (xe : (Nat → Int32)) (xn : Int32) (xo : Int32) (xp : Int32) (xu : (Nat → Int32)) (xd : Int32) {H : Heap} {locs : List Loc} {ls : Array Slot} (hI : Inv yn yk yl yt yu ye yc yh xs xi xh xl xr xe xn xo) (hH : Hs D (fun q : Nat => s.heap.size ≤ q) s.heap (wMn cI cJ cQ ad yn ym yk yl yt yd yu ye yv yo y0 y1 yc yh ++ wMd cI bd xs xm xi xw xh xl xr xe xn xo xp xu xd) H locs) (hl : lv_has ls 4 [(0, .ref b), (1, .ref (ad 0)), (2, .ref (bd 0)), (3, .int (nI j))]) (NEXT : ∀ (yn : LandT) (ym : LandT) (yk : LandT) (yl : (Nat → Int32)) (yt : Int32) (yd : Int32) (yu : (Nat → Int32)) (ye : (Nat → Int32)) (yv : (Nat → Int32)) (yo : (Nat → Int64)) (y0 : (Nat → Int32)) (y1 : (Nat → Int32)) (yc : Int32) (yh : Int32) (xs : (Nat → Int32)) (xm : (Nat → Int32)) (xi : (Nat → Int32)) (xw : (Nat → Int32)) (xh : Int32) (xl : (Nat → Int32)) (xr : (Nat → Int32)) (xe : (Nat → Int32)) (xn : Int32) (xo : Int32) (xp : Int32) (xu : (Nat → Int32)) (xd : Int32) (H : Heap) (locs : List Loc) (ls : Array Slot), Inv yn yk yl yt yu ye yc yh xs xi xh xl xr xe xn xo → Hs D (fun q : Nat => s.heap.size ≤ q) s.heap (wMn cI cJ cQ ad yn ym yk yl yt yd yu ye yv yo y0 y1 yc yh ++ wMd cI bd xs xm xi xw xh xl xr xe xn xo xp xu xd) H locs → lv_has ls 4 [(0, .ref b), (1, .ref (ad 0)), (2, .ref (bd 0)), (3, .int (nI j))] → W p l e room_1 s m #[Value.ref b] below meth c H locs 44 733 (lw_Z below #[Value.ref b] s) (F0 m 1336 ls [])) : W p l e room_1 s m #[Value.ref b] below meth c H locs 44 733 (lw_Z below #[Value.ref b] s) (F0 m 731 ls []) := by
  obtain ⟨hx, hb, hml, hown, hts⟩ := id F
  have hA : ∀ q : Nat, s.heap.size ≤ q → (fun q : Nat => s.heap.size ≤ q) q := fun _ h => h
  have hbA : ¬ (fun q : Nat => s.heap.size ≤ q) b := Nat.not_le.mpr hbl
  obtain ⟨ra, rb, h1, h2, hr, hI⟩ := st_agree yn ym yk yl yt yd yu ye yv yo y0 y1 yc yh xs xm xi xw xh xl xr xe xn xo xp xu xd hI
  refine lv_aload_n hx hb dL_law_731 rfl (lv_at hl 1 rfl) ?_
  refine k_ViL F hK hH hA hl.1 ⟨(Nat.le_of_ble_eq_true rfl), (Nat.le_of_ble_eq_true rfl)⟩ [] [] (ctX3_agree ad yn ym yk yl yt yd yu ye yv yo y0 y1 yc yh h1) (cwV 0 F.2.2.2.2 gL_law_X3_agree rfl rfl rfl hdVX3_agree ⟨(Nat.le_of_ble_eq_true rfl), (Nat.le_of_ble_eq_true rfl)⟩) dL_law_732 rfl rfl rfl rfl rfl (Nat.le_of_ble_eq_true rfl) rfl (fun H locs hH => ?_)
  have hH : Hs D (fun q : Nat => s.heap.size ≤ q) s.heap (wMn cI cJ cQ ad yn ra.2 yk yl yt yd yu ye yv yo y0 y1 yc yh ++ wMd cI bd xs xm xi xw xh xl xr xe xn xo xp xu xd) H locs := hH
  refine lv_aload_n hx hb dL_law_735 rfl (lv_at hl 2 rfl) ?_
  refine k_ViR F hK hH hA hl.1 ⟨(Nat.le_of_ble_eq_true rfl), (Nat.le_of_ble_eq_true rfl)⟩ [] [.int ra.1] (ctX4_agree bd xs xm xi xw xh xl xr xe xn xo xp xu xd h2) (cwV 0 F.2.2.2.2 gL_law_X4_agree rfl rfl rfl hdVX4_agree ⟨(Nat.le_of_ble_eq_true rfl), (Nat.le_of_ble_eq_true rfl)⟩) dL_law_736 rfl rfl rfl rfl rfl (Nat.le_of_ble_eq_true rfl) rfl (fun H locs hH => ?_)
  have hH : Hs D (fun q : Nat => s.heap.size ≤ q) s.heap (wMn cI cJ cQ ad yn ra.2 yk yl yt yd yu ye yv yo y0 y1 yc yh ++ wMd cI bd xs rb.2 xi xw xh xl xr xe xn xo xp xu xd) H locs := hH
  refine lv_icmp_eq (tgt := 1336) hx hb dL_law_739 (by decide) (fun _ => ?_) (fun hc => ?_)
  · exact NEXT _ _ _ _ _ _ _ _ _ _ _ _ _ _ _ _ _ _ _ _ _ _ _ _ _ _ _ H locs ls hI hH hl
  · exact absurd hr hc

set_option maxHeartbeats 4000000 in
set_option maxRecDepth 100000 in
theorem law_c18 {p : Program} {l : Launch} {e : Env} {s : State} {m : MethodId} {below : List Frame} {meth : Method} {c : Code} {D : va_G} {cI cJ cQ : ClassId} {aK aV : Nat → Nat} {ad bd : Nat → Nat} {b N j : Nat} {xv : Nat → Int32} (F : CallFix p m c cL_law 4 s #[Value.ref b] wsL_law RL) (hK : KK D cI cJ cQ s) (hT : TXF aK aV (fun q : Nat => s.heap.size ≤ q) s s.heap) (hX : va_X b N xv s s.heap) (hbl : b < s.heap.size) (hN : N ≤ 3072) (hj : j + 6 ≤ N) (yn : LandT) (ym : LandT) (yk : LandT) (yl : (Nat → Int32)) (yt : Int32) (yd : Int32) (yu : (Nat → Int32)) (ye : (Nat → Int32)) (yv : (Nat → Int32)) (yo : (Nat → Int64)) (y0 : (Nat → Int32)) (y1 : (Nat → Int32)) (yc : Int32) (yh : Int32) (xs : (Nat → Int32)) (xm : (Nat → Int32)) (xi : (Nat → Int32)) (xw : (Nat → Int32)) (xh : Int32) (xl : (Nat → Int32)) (xr : (Nat → Int32)) (xe : (Nat → Int32)) (xn : Int32) (xo : Int32) (xp : Int32) (xu : (Nat → Int32)) (xd : Int32) {H : Heap} {locs : List Loc} {ls : Array Slot} (hI : Inv yn yk yl yt yu ye yc yh xs xi xh xl xr xe xn xo) (hH : Hs D (fun q : Nat => s.heap.size ≤ q) s.heap (wMn cI cJ cQ ad yn ym yk yl yt yd yu ye yv yo y0 y1 yc yh ++ wMd cI bd xs xm xi xw xh xl xr xe xn xo xp xu xd) H locs) (hl : lv_has ls 4 [(0, .ref b), (1, .ref (ad 0)), (2, .ref (bd 0)), (3, .int (nI j))]) (NEXT : ∀ (yn : LandT) (ym : LandT) (yk : LandT) (yl : (Nat → Int32)) (yt : Int32) (yd : Int32) (yu : (Nat → Int32)) (ye : (Nat → Int32)) (yv : (Nat → Int32)) (yo : (Nat → Int64)) (y0 : (Nat → Int32)) (y1 : (Nat → Int32)) (yc : Int32) (yh : Int32) (xs : (Nat → Int32)) (xm : (Nat → Int32)) (xi : (Nat → Int32)) (xw : (Nat → Int32)) (xh : Int32) (xl : (Nat → Int32)) (xr : (Nat → Int32)) (xe : (Nat → Int32)) (xn : Int32) (xo : Int32) (xp : Int32) (xu : (Nat → Int32)) (xd : Int32) (H : Heap) (locs : List Loc) (ls : Array Slot), Inv yn yk yl yt yu ye yc yh xs xi xh xl xr xe xn xo → Hs D (fun q : Nat => s.heap.size ≤ q) s.heap (wMn cI cJ cQ ad yn ym yk yl yt yd yu ye yv yo y0 y1 yc yh ++ wMd cI bd xs xm xi xw xh xl xr xe xn xo xp xu xd) H locs → lv_has ls 4 [(0, .ref b), (1, .ref (ad 0)), (2, .ref (bd 0)), (3, .int (nI j))] → W p l e room_1 s m #[Value.ref b] below meth c H locs 44 733 (lw_Z below #[Value.ref b] s) (F0 m 1336 ls [])) : W p l e room_1 s m #[Value.ref b] below meth c H locs 44 733 (lw_Z below #[Value.ref b] s) (F0 m 744 ls []) := by
  obtain ⟨hx, hb, hml, hown, hts⟩ := id F
  have hA : ∀ q : Nat, s.heap.size ≤ q → (fun q : Nat => s.heap.size ≤ q) q := fun _ h => h
  have hbA : ¬ (fun q : Nat => s.heap.size ≤ q) b := Nat.not_le.mpr hbl
  obtain ⟨ra, rb, h1, h2, hr, hI⟩ := st_appeal yn ym yk yl yt yd yu ye yv yo y0 y1 yc yh xs xm xi xw xh xl xr xe xn xo xp xu xd (xv (Int32.toNatClampNeg (nI j + 1))) hI
  refine lv_aload_n hx hb dL_law_744 rfl (lv_at hl 1 rfl) ?_
  refine lv_aload_n hx hb dL_law_745 rfl (lv_at hl 0 rfl) ?_
  refine lv_iload_n hx hb dL_law_746 rfl (lv_at hl 3 rfl) ?_
  refine lv_iconst (v := 1) hx hb dL_law_747 (by decide) ?_
  refine lv_iadd hx hb dL_law_748 ?_
  refine va_sld hx hb hX hbl hbA hH.2.2 (law_ix hN hj 1 (by decide)) dL_law_749 ?_
  refine k_ViL F hK hH hA hl.1 ⟨(Nat.le_of_ble_eq_true rfl), (Nat.le_of_ble_eq_true rfl)⟩ [.int (xv (Int32.toNatClampNeg (nI j + 1)))] [] (ctX3_appeal ad yn ym yk yl yt yd yu ye yv yo y0 y1 yc yh (xv (Int32.toNatClampNeg (nI j + 1))) h1) (cwV 1 F.2.2.2.2 gL_law_X3_appeal rfl rfl rfl hdVX3_appeal ⟨(Nat.le_of_ble_eq_true rfl), (Nat.le_of_ble_eq_true rfl)⟩) dL_law_750 rfl rfl rfl rfl rfl (Nat.le_of_ble_eq_true rfl) rfl (fun H locs hH => ?_)
  have hH : Hs D (fun q : Nat => s.heap.size ≤ q) s.heap (wMn cI cJ cQ ad yn ym yk yl yt yd yu ra.2 yv yo y0 y1 yc yh ++ wMd cI bd xs xm xi xw xh xl xr xe xn xo xp xu xd) H locs := hH
  refine lv_aload_n hx hb dL_law_753 rfl (lv_at hl 2 rfl) ?_
  refine lv_aload_n hx hb dL_law_754 rfl (lv_at hl 0 rfl) ?_
  refine lv_iload_n hx hb dL_law_755 rfl (lv_at hl 3 rfl) ?_
  refine lv_iconst (v := 1) hx hb dL_law_756 (by decide) ?_
  refine lv_iadd hx hb dL_law_757 ?_
  refine va_sld hx hb hX hbl hbA hH.2.2 (law_ix hN hj 1 (by decide)) dL_law_758 ?_
  refine k_ViR F hK hH hA hl.1 ⟨(Nat.le_of_ble_eq_true rfl), (Nat.le_of_ble_eq_true rfl)⟩ [.int (xv (Int32.toNatClampNeg (nI j + 1)))] [.int ra.1] (ctX4_appeal bd xs xm xi xw xh xl xr xe xn xo xp xu xd (xv (Int32.toNatClampNeg (nI j + 1))) h2) (cwV 1 F.2.2.2.2 gL_law_X4_appeal rfl rfl rfl hdVX4_appeal ⟨(Nat.le_of_ble_eq_true rfl), (Nat.le_of_ble_eq_true rfl)⟩) dL_law_759 rfl rfl rfl rfl rfl (Nat.le_of_ble_eq_true rfl) rfl (fun H locs hH => ?_)
  have hH : Hs D (fun q : Nat => s.heap.size ≤ q) s.heap (wMn cI cJ cQ ad yn ym yk yl yt yd yu ra.2 yv yo y0 y1 yc yh ++ wMd cI bd xs xm xi xw xh xl xr rb.2 xn xo xp xu xd) H locs := hH
  refine lv_icmp_eq (tgt := 1336) hx hb dL_law_762 (by decide) (fun _ => ?_) (fun hc => ?_)
  · exact NEXT _ _ _ _ _ _ _ _ _ _ _ _ _ _ _ _ _ _ _ _ _ _ _ _ _ _ _ H locs ls hI hH hl
  · exact absurd hr hc

