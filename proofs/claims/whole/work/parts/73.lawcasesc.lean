set_option maxHeartbeats 4000000 in
set_option maxRecDepth 100000 in
theorem law_c19 {p : Program} {l : Launch} {e : Env} {s : State} {m : MethodId} {below : List Frame} {meth : Method} {c : Code} {D : va_G} {cI cJ cQ : ClassId} {aK aV : Nat → Nat} {ad bd : Nat → Nat} {b N j : Nat} {xv : Nat → Int32} (F : CallFix p m c cL_law 4 s #[Value.ref b] wsL_law RL) (hK : KK D cI cJ cQ s) (hT : TXF aK aV (fun q : Nat => s.heap.size ≤ q) s s.heap) (hX : va_X b N xv s s.heap) (hbl : b < s.heap.size) (hN : N ≤ 3072) (hj : j + 6 ≤ N) (yn : LandT) (ym : LandT) (yk : LandT) (yl : (Nat → Int32)) (yt : Int32) (yd : Int32) (yu : (Nat → Int32)) (ye : (Nat → Int32)) (yv : (Nat → Int32)) (yo : (Nat → Int64)) (y0 : (Nat → Int32)) (y1 : (Nat → Int32)) (yc : Int32) (yh : Int32) (xs : (Nat → Int32)) (xm : (Nat → Int32)) (xi : (Nat → Int32)) (xw : (Nat → Int32)) (xh : Int32) (xl : (Nat → Int32)) (xr : (Nat → Int32)) (xe : (Nat → Int32)) (xn : Int32) (xo : Int32) (xp : Int32) (xu : (Nat → Int32)) (xd : Int32) {H : Heap} {locs : List Loc} {ls : Array Slot} (hI : Inv yn yk yl yt yu ye yc yh xs xi xh xl xr xe xn xo) (hH : Hs D (fun q : Nat => s.heap.size ≤ q) s.heap (wMn cI cJ cQ ad yn ym yk yl yt yd yu ye yv yo y0 y1 yc yh ++ wMd cI bd xs xm xi xw xh xl xr xe xn xo xp xu xd) H locs) (hl : lv_has ls 4 [(0, .ref b), (1, .ref (ad 0)), (2, .ref (bd 0)), (3, .int (nI j))]) (NEXT : ∀ (yn : LandT) (ym : LandT) (yk : LandT) (yl : (Nat → Int32)) (yt : Int32) (yd : Int32) (yu : (Nat → Int32)) (ye : (Nat → Int32)) (yv : (Nat → Int32)) (yo : (Nat → Int64)) (y0 : (Nat → Int32)) (y1 : (Nat → Int32)) (yc : Int32) (yh : Int32) (xs : (Nat → Int32)) (xm : (Nat → Int32)) (xi : (Nat → Int32)) (xw : (Nat → Int32)) (xh : Int32) (xl : (Nat → Int32)) (xr : (Nat → Int32)) (xe : (Nat → Int32)) (xn : Int32) (xo : Int32) (xp : Int32) (xu : (Nat → Int32)) (xd : Int32) (H : Heap) (locs : List Loc) (ls : Array Slot), Inv yn yk yl yt yu ye yc yh xs xi xh xl xr xe xn xo → Hs D (fun q : Nat => s.heap.size ≤ q) s.heap (wMn cI cJ cQ ad yn ym yk yl yt yd yu ye yv yo y0 y1 yc yh ++ wMd cI bd xs xm xi xw xh xl xr xe xn xo xp xu xd) H locs → lv_has ls 4 [(0, .ref b), (1, .ref (ad 0)), (2, .ref (bd 0)), (3, .int (nI j))] → W p l e room_1 s m #[Value.ref b] below meth c H locs 44 733 (lw_Z below #[Value.ref b] s) (F0 m 1336 ls [])) : W p l e room_1 s m #[Value.ref b] below meth c H locs 44 733 (lw_Z below #[Value.ref b] s) (F0 m 767 ls []) := by
  obtain ⟨hx, hb, hml, hown, hts⟩ := id F
  have hA : ∀ q : Nat, s.heap.size ≤ q → (fun q : Nat => s.heap.size ≤ q) q := fun _ h => h
  have hbA : ¬ (fun q : Nat => s.heap.size ≤ q) b := Nat.not_le.mpr hbl
  obtain ⟨ra, rb, h1, h2, hr, hI⟩ := st_branches yn ym yk yl yt yd yu ye yv yo y0 y1 yc yh xs xm xi xw xh xl xr xe xn xo xp xu xd (xv (Int32.toNatClampNeg (nI j + 1))) hI
  refine lv_aload_n hx hb dL_law_767 rfl (lv_at hl 1 rfl) ?_
  refine lv_aload_n hx hb dL_law_768 rfl (lv_at hl 0 rfl) ?_
  refine lv_iload_n hx hb dL_law_769 rfl (lv_at hl 3 rfl) ?_
  refine lv_iconst (v := 1) hx hb dL_law_770 (by decide) ?_
  refine lv_iadd hx hb dL_law_771 ?_
  refine va_sld hx hb hX hbl hbA hH.2.2 (law_ix hN hj 1 (by decide)) dL_law_772 ?_
  refine k_ViL F hK hH hA hl.1 ⟨(Nat.le_of_ble_eq_true rfl), (Nat.le_of_ble_eq_true rfl)⟩ [.int (xv (Int32.toNatClampNeg (nI j + 1)))] [] (ctX3_branches ad yn ym yk yl yt yd yu ye yv yo y0 y1 yc yh (xv (Int32.toNatClampNeg (nI j + 1))) h1) (cwV 1 F.2.2.2.2 gL_law_X3_branches rfl rfl rfl hdVX3_branches ⟨(Nat.le_of_ble_eq_true rfl), (Nat.le_of_ble_eq_true rfl)⟩) dL_law_773 rfl rfl rfl rfl rfl (Nat.le_of_ble_eq_true rfl) rfl (fun H locs hH => ?_)
  have hH : Hs D (fun q : Nat => s.heap.size ≤ q) s.heap (wMn cI cJ cQ ad yn ym yk yl yt yd yu ra.2 yv yo y0 y1 yc yh ++ wMd cI bd xs xm xi xw xh xl xr xe xn xo xp xu xd) H locs := hH
  refine lv_aload_n hx hb dL_law_776 rfl (lv_at hl 2 rfl) ?_
  refine lv_aload_n hx hb dL_law_777 rfl (lv_at hl 0 rfl) ?_
  refine lv_iload_n hx hb dL_law_778 rfl (lv_at hl 3 rfl) ?_
  refine lv_iconst (v := 1) hx hb dL_law_779 (by decide) ?_
  refine lv_iadd hx hb dL_law_780 ?_
  refine va_sld hx hb hX hbl hbA hH.2.2 (law_ix hN hj 1 (by decide)) dL_law_781 ?_
  refine k_ViR F hK hH hA hl.1 ⟨(Nat.le_of_ble_eq_true rfl), (Nat.le_of_ble_eq_true rfl)⟩ [.int (xv (Int32.toNatClampNeg (nI j + 1)))] [.int ra.1] (ctX4_branches bd xs xm xi xw xh xl xr xe xn xo xp xu xd (xv (Int32.toNatClampNeg (nI j + 1))) h2) (cwV 1 F.2.2.2.2 gL_law_X4_branches rfl rfl rfl hdVX4_branches ⟨(Nat.le_of_ble_eq_true rfl), (Nat.le_of_ble_eq_true rfl)⟩) dL_law_782 rfl rfl rfl rfl rfl (Nat.le_of_ble_eq_true rfl) rfl (fun H locs hH => ?_)
  have hH : Hs D (fun q : Nat => s.heap.size ≤ q) s.heap (wMn cI cJ cQ ad yn ym yk yl yt yd yu ra.2 yv yo y0 y1 yc yh ++ wMd cI bd xs xm xi xw xh xl xr rb.2 xn xo xp xu xd) H locs := hH
  refine lv_icmp_eq (tgt := 1336) hx hb dL_law_785 (by decide) (fun _ => ?_) (fun hc => ?_)
  · exact NEXT _ _ _ _ _ _ _ _ _ _ _ _ _ _ _ _ _ _ _ _ _ _ _ _ _ _ _ H locs ls hI hH hl
  · exact absurd hr hc

set_option maxHeartbeats 4000000 in
set_option maxRecDepth 100000 in
theorem law_c20 {p : Program} {l : Launch} {e : Env} {s : State} {m : MethodId} {below : List Frame} {meth : Method} {c : Code} {D : va_G} {cI cJ cQ : ClassId} {aK aV : Nat → Nat} {ad bd : Nat → Nat} {b N j : Nat} {xv : Nat → Int32} (F : CallFix p m c cL_law 4 s #[Value.ref b] wsL_law RL) (hK : KK D cI cJ cQ s) (hT : TXF aK aV (fun q : Nat => s.heap.size ≤ q) s s.heap) (hX : va_X b N xv s s.heap) (hbl : b < s.heap.size) (hN : N ≤ 3072) (hj : j + 6 ≤ N) (yn : LandT) (ym : LandT) (yk : LandT) (yl : (Nat → Int32)) (yt : Int32) (yd : Int32) (yu : (Nat → Int32)) (ye : (Nat → Int32)) (yv : (Nat → Int32)) (yo : (Nat → Int64)) (y0 : (Nat → Int32)) (y1 : (Nat → Int32)) (yc : Int32) (yh : Int32) (xs : (Nat → Int32)) (xm : (Nat → Int32)) (xi : (Nat → Int32)) (xw : (Nat → Int32)) (xh : Int32) (xl : (Nat → Int32)) (xr : (Nat → Int32)) (xe : (Nat → Int32)) (xn : Int32) (xo : Int32) (xp : Int32) (xu : (Nat → Int32)) (xd : Int32) {H : Heap} {locs : List Loc} {ls : Array Slot} (hI : Inv yn yk yl yt yu ye yc yh xs xi xh xl xr xe xn xo) (hH : Hs D (fun q : Nat => s.heap.size ≤ q) s.heap (wMn cI cJ cQ ad yn ym yk yl yt yd yu ye yv yo y0 y1 yc yh ++ wMd cI bd xs xm xi xw xh xl xr xe xn xo xp xu xd) H locs) (hl : lv_has ls 4 [(0, .ref b), (1, .ref (ad 0)), (2, .ref (bd 0)), (3, .int (nI j))]) (NEXT : ∀ (yn : LandT) (ym : LandT) (yk : LandT) (yl : (Nat → Int32)) (yt : Int32) (yd : Int32) (yu : (Nat → Int32)) (ye : (Nat → Int32)) (yv : (Nat → Int32)) (yo : (Nat → Int64)) (y0 : (Nat → Int32)) (y1 : (Nat → Int32)) (yc : Int32) (yh : Int32) (xs : (Nat → Int32)) (xm : (Nat → Int32)) (xi : (Nat → Int32)) (xw : (Nat → Int32)) (xh : Int32) (xl : (Nat → Int32)) (xr : (Nat → Int32)) (xe : (Nat → Int32)) (xn : Int32) (xo : Int32) (xp : Int32) (xu : (Nat → Int32)) (xd : Int32) (H : Heap) (locs : List Loc) (ls : Array Slot), Inv yn yk yl yt yu ye yc yh xs xi xh xl xr xe xn xo → Hs D (fun q : Nat => s.heap.size ≤ q) s.heap (wMn cI cJ cQ ad yn ym yk yl yt yd yu ye yv yo y0 y1 yc yh ++ wMd cI bd xs xm xi xw xh xl xr xe xn xo xp xu xd) H locs → lv_has ls 4 [(0, .ref b), (1, .ref (ad 0)), (2, .ref (bd 0)), (3, .int (nI j))] → W p l e room_1 s m #[Value.ref b] below meth c H locs 44 733 (lw_Z below #[Value.ref b] s) (F0 m 1336 ls [])) : W p l e room_1 s m #[Value.ref b] below meth c H locs 44 733 (lw_Z below #[Value.ref b] s) (F0 m 790 ls []) := by
  obtain ⟨hx, hb, hml, hown, hts⟩ := id F
  have hA : ∀ q : Nat, s.heap.size ≤ q → (fun q : Nat => s.heap.size ≤ q) q := fun _ h => h
  have hbA : ¬ (fun q : Nat => s.heap.size ≤ q) b := Nat.not_le.mpr hbl
  obtain ⟨ra, rb, h1, h2, hr, hI⟩ := st_best yn ym yk yl yt yd yu ye yv yo y0 y1 yc yh xs xm xi xw xh xl xr xe xn xo xp xu xd (xv (Int32.toNatClampNeg (nI j + 1))) (xv (Int32.toNatClampNeg (nI j + 2))) (xv (Int32.toNatClampNeg (nI j + 3))) hI
  refine lv_aload_n hx hb dL_law_790 rfl (lv_at hl 1 rfl) ?_
  refine lv_aload_n hx hb dL_law_791 rfl (lv_at hl 0 rfl) ?_
  refine lv_iload_n hx hb dL_law_792 rfl (lv_at hl 3 rfl) ?_
  refine lv_iconst (v := 1) hx hb dL_law_793 (by decide) ?_
  refine lv_iadd hx hb dL_law_794 ?_
  refine va_sld hx hb hX hbl hbA hH.2.2 (law_ix hN hj 1 (by decide)) dL_law_795 ?_
  refine lv_aload_n hx hb dL_law_796 rfl (lv_at hl 0 rfl) ?_
  refine lv_iload_n hx hb dL_law_797 rfl (lv_at hl 3 rfl) ?_
  refine lv_iconst (v := 2) hx hb dL_law_798 (by decide) ?_
  refine lv_iadd hx hb dL_law_799 ?_
  refine va_sld hx hb hX hbl hbA hH.2.2 (law_ix hN hj 2 (by decide)) dL_law_800 ?_
  refine lv_aload_n hx hb dL_law_801 rfl (lv_at hl 0 rfl) ?_
  refine lv_iload_n hx hb dL_law_802 rfl (lv_at hl 3 rfl) ?_
  refine lv_iconst (v := 3) hx hb dL_law_803 (by decide) ?_
  refine lv_iadd hx hb dL_law_804 ?_
  refine va_sld hx hb hX hbl hbA hH.2.2 (law_ix hN hj 3 (by decide)) dL_law_805 ?_
  refine k_ViL F hK hH hA hl.1 ⟨(Nat.le_of_ble_eq_true rfl), (Nat.le_of_ble_eq_true rfl)⟩ [.int (xv (Int32.toNatClampNeg (nI j + 1))), .int (xv (Int32.toNatClampNeg (nI j + 2))), .int (xv (Int32.toNatClampNeg (nI j + 3)))] [] (ctX3_best ad yn ym yk yl yt yd yu ye yv yo y0 y1 yc yh (xv (Int32.toNatClampNeg (nI j + 1))) (xv (Int32.toNatClampNeg (nI j + 2))) (xv (Int32.toNatClampNeg (nI j + 3))) h1) (cwV 3 F.2.2.2.2 gL_law_X3_best rfl rfl rfl hdVX3_best ⟨(Nat.le_of_ble_eq_true rfl), (Nat.le_of_ble_eq_true rfl)⟩) dL_law_806 rfl rfl rfl rfl rfl (Nat.le_of_ble_eq_true rfl) rfl (fun H locs hH => ?_)
  have hH : Hs D (fun q : Nat => s.heap.size ≤ q) s.heap (wMn cI cJ cQ ad yn ra.2.1 yk yl yt yd yu ra.2.2 yv yo y0 y1 yc yh ++ wMd cI bd xs xm xi xw xh xl xr xe xn xo xp xu xd) H locs := hH
  refine lv_aload_n hx hb dL_law_809 rfl (lv_at hl 2 rfl) ?_
  refine lv_aload_n hx hb dL_law_810 rfl (lv_at hl 0 rfl) ?_
  refine lv_iload_n hx hb dL_law_811 rfl (lv_at hl 3 rfl) ?_
  refine lv_iconst (v := 1) hx hb dL_law_812 (by decide) ?_
  refine lv_iadd hx hb dL_law_813 ?_
  refine va_sld hx hb hX hbl hbA hH.2.2 (law_ix hN hj 1 (by decide)) dL_law_814 ?_
  refine lv_aload_n hx hb dL_law_815 rfl (lv_at hl 0 rfl) ?_
  refine lv_iload_n hx hb dL_law_816 rfl (lv_at hl 3 rfl) ?_
  refine lv_iconst (v := 2) hx hb dL_law_817 (by decide) ?_
  refine lv_iadd hx hb dL_law_818 ?_
  refine va_sld hx hb hX hbl hbA hH.2.2 (law_ix hN hj 2 (by decide)) dL_law_819 ?_
  refine lv_aload_n hx hb dL_law_820 rfl (lv_at hl 0 rfl) ?_
  refine lv_iload_n hx hb dL_law_821 rfl (lv_at hl 3 rfl) ?_
  refine lv_iconst (v := 3) hx hb dL_law_822 (by decide) ?_
  refine lv_iadd hx hb dL_law_823 ?_
  refine va_sld hx hb hX hbl hbA hH.2.2 (law_ix hN hj 3 (by decide)) dL_law_824 ?_
  refine k_ViR F hK hH hA hl.1 ⟨(Nat.le_of_ble_eq_true rfl), (Nat.le_of_ble_eq_true rfl)⟩ [.int (xv (Int32.toNatClampNeg (nI j + 1))), .int (xv (Int32.toNatClampNeg (nI j + 2))), .int (xv (Int32.toNatClampNeg (nI j + 3)))] [.int ra.1] (ctX4_best bd xs xm xi xw xh xl xr xe xn xo xp xu xd (xv (Int32.toNatClampNeg (nI j + 1))) (xv (Int32.toNatClampNeg (nI j + 2))) (xv (Int32.toNatClampNeg (nI j + 3))) h2) (cwV 3 F.2.2.2.2 gL_law_X4_best rfl rfl rfl hdVX4_best ⟨(Nat.le_of_ble_eq_true rfl), (Nat.le_of_ble_eq_true rfl)⟩) dL_law_825 rfl rfl rfl rfl rfl (Nat.le_of_ble_eq_true rfl) rfl (fun H locs hH => ?_)
  have hH : Hs D (fun q : Nat => s.heap.size ≤ q) s.heap (wMn cI cJ cQ ad yn ra.2.1 yk yl yt yd yu ra.2.2 yv yo y0 y1 yc yh ++ wMd cI bd xs rb.2.1 xi xw xh xl xr rb.2.2 xn xo xp xu xd) H locs := hH
  refine lv_icmp_eq (tgt := 1336) hx hb dL_law_828 (by decide) (fun _ => ?_) (fun hc => ?_)
  · exact NEXT _ _ _ _ _ _ _ _ _ _ _ _ _ _ _ _ _ _ _ _ _ _ _ _ _ _ _ H locs ls hI hH hl
  · exact absurd hr hc

set_option maxHeartbeats 4000000 in
set_option maxRecDepth 100000 in
theorem law_c21 {p : Program} {l : Launch} {e : Env} {s : State} {m : MethodId} {below : List Frame} {meth : Method} {c : Code} {D : va_G} {cI cJ cQ : ClassId} {aK aV : Nat → Nat} {ad bd : Nat → Nat} {b N j : Nat} {xv : Nat → Int32} (F : CallFix p m c cL_law 4 s #[Value.ref b] wsL_law RL) (hK : KK D cI cJ cQ s) (hT : TXF aK aV (fun q : Nat => s.heap.size ≤ q) s s.heap) (hX : va_X b N xv s s.heap) (hbl : b < s.heap.size) (hN : N ≤ 3072) (hj : j + 6 ≤ N) (yn : LandT) (ym : LandT) (yk : LandT) (yl : (Nat → Int32)) (yt : Int32) (yd : Int32) (yu : (Nat → Int32)) (ye : (Nat → Int32)) (yv : (Nat → Int32)) (yo : (Nat → Int64)) (y0 : (Nat → Int32)) (y1 : (Nat → Int32)) (yc : Int32) (yh : Int32) (xs : (Nat → Int32)) (xm : (Nat → Int32)) (xi : (Nat → Int32)) (xw : (Nat → Int32)) (xh : Int32) (xl : (Nat → Int32)) (xr : (Nat → Int32)) (xe : (Nat → Int32)) (xn : Int32) (xo : Int32) (xp : Int32) (xu : (Nat → Int32)) (xd : Int32) {H : Heap} {locs : List Loc} {ls : Array Slot} (hI : Inv yn yk yl yt yu ye yc yh xs xi xh xl xr xe xn xo) (hH : Hs D (fun q : Nat => s.heap.size ≤ q) s.heap (wMn cI cJ cQ ad yn ym yk yl yt yd yu ye yv yo y0 y1 yc yh ++ wMd cI bd xs xm xi xw xh xl xr xe xn xo xp xu xd) H locs) (hl : lv_has ls 4 [(0, .ref b), (1, .ref (ad 0)), (2, .ref (bd 0)), (3, .int (nI j))]) (NEXT : ∀ (yn : LandT) (ym : LandT) (yk : LandT) (yl : (Nat → Int32)) (yt : Int32) (yd : Int32) (yu : (Nat → Int32)) (ye : (Nat → Int32)) (yv : (Nat → Int32)) (yo : (Nat → Int64)) (y0 : (Nat → Int32)) (y1 : (Nat → Int32)) (yc : Int32) (yh : Int32) (xs : (Nat → Int32)) (xm : (Nat → Int32)) (xi : (Nat → Int32)) (xw : (Nat → Int32)) (xh : Int32) (xl : (Nat → Int32)) (xr : (Nat → Int32)) (xe : (Nat → Int32)) (xn : Int32) (xo : Int32) (xp : Int32) (xu : (Nat → Int32)) (xd : Int32) (H : Heap) (locs : List Loc) (ls : Array Slot), Inv yn yk yl yt yu ye yc yh xs xi xh xl xr xe xn xo → Hs D (fun q : Nat => s.heap.size ≤ q) s.heap (wMn cI cJ cQ ad yn ym yk yl yt yd yu ye yv yo y0 y1 yc yh ++ wMd cI bd xs xm xi xw xh xl xr xe xn xo xp xu xd) H locs → lv_has ls 4 [(0, .ref b), (1, .ref (ad 0)), (2, .ref (bd 0)), (3, .int (nI j))] → W p l e room_1 s m #[Value.ref b] below meth c H locs 44 733 (lw_Z below #[Value.ref b] s) (F0 m 1336 ls [])) : W p l e room_1 s m #[Value.ref b] below meth c H locs 44 733 (lw_Z below #[Value.ref b] s) (F0 m 833 ls []) := by
  obtain ⟨hx, hb, hml, hown, hts⟩ := id F
  have hA : ∀ q : Nat, s.heap.size ≤ q → (fun q : Nat => s.heap.size ≤ q) q := fun _ h => h
  have hbA : ¬ (fun q : Nat => s.heap.size ≤ q) b := Nat.not_le.mpr hbl
  obtain ⟨ra, rb, h1, h2, hr, hI⟩ := st_drive yn ym yk yl yt yd yu ye yv yo y0 y1 yc yh xs xm xi xw xh xl xr xe xn xo xp xu xd (xv (Int32.toNatClampNeg (nI j + 1))) (xv (Int32.toNatClampNeg (nI j + 2))) hI
  refine lv_aload_n hx hb dL_law_833 rfl (lv_at hl 1 rfl) ?_
  refine lv_aload_n hx hb dL_law_834 rfl (lv_at hl 0 rfl) ?_
  refine lv_iload_n hx hb dL_law_835 rfl (lv_at hl 3 rfl) ?_
  refine lv_iconst (v := 1) hx hb dL_law_836 (by decide) ?_
  refine lv_iadd hx hb dL_law_837 ?_
  refine va_sld hx hb hX hbl hbA hH.2.2 (law_ix hN hj 1 (by decide)) dL_law_838 ?_
  refine lv_aload_n hx hb dL_law_839 rfl (lv_at hl 0 rfl) ?_
  refine lv_iload_n hx hb dL_law_840 rfl (lv_at hl 3 rfl) ?_
  refine lv_iconst (v := 2) hx hb dL_law_841 (by decide) ?_
  refine lv_iadd hx hb dL_law_842 ?_
  refine va_sld hx hb hX hbl hbA hH.2.2 (law_ix hN hj 2 (by decide)) dL_law_843 ?_
  refine k_ViL F hK hH hA hl.1 ⟨(Nat.le_of_ble_eq_true rfl), (Nat.le_of_ble_eq_true rfl)⟩ [.int (xv (Int32.toNatClampNeg (nI j + 1))), .int (xv (Int32.toNatClampNeg (nI j + 2)))] [] (ctX3_drive ad yn ym yk yl yt yd yu ye yv yo y0 y1 yc yh (xv (Int32.toNatClampNeg (nI j + 1))) (xv (Int32.toNatClampNeg (nI j + 2))) h1) (cwV 2 F.2.2.2.2 gL_law_X3_drive rfl rfl rfl hdVX3_drive ⟨(Nat.le_of_ble_eq_true rfl), (Nat.le_of_ble_eq_true rfl)⟩) dL_law_844 rfl rfl rfl rfl rfl (Nat.le_of_ble_eq_true rfl) rfl (fun H locs hH => ?_)
  have hH : Hs D (fun q : Nat => s.heap.size ≤ q) s.heap (wMn cI cJ cQ ad yn ra.2.1 yk yl yt yd yu ra.2.2 yv yo y0 y1 yc yh ++ wMd cI bd xs xm xi xw xh xl xr xe xn xo xp xu xd) H locs := hH
  refine lv_aload_n hx hb dL_law_847 rfl (lv_at hl 2 rfl) ?_
  refine lv_aload_n hx hb dL_law_848 rfl (lv_at hl 0 rfl) ?_
  refine lv_iload_n hx hb dL_law_849 rfl (lv_at hl 3 rfl) ?_
  refine lv_iconst (v := 1) hx hb dL_law_850 (by decide) ?_
  refine lv_iadd hx hb dL_law_851 ?_
  refine va_sld hx hb hX hbl hbA hH.2.2 (law_ix hN hj 1 (by decide)) dL_law_852 ?_
  refine lv_aload_n hx hb dL_law_853 rfl (lv_at hl 0 rfl) ?_
  refine lv_iload_n hx hb dL_law_854 rfl (lv_at hl 3 rfl) ?_
  refine lv_iconst (v := 2) hx hb dL_law_855 (by decide) ?_
  refine lv_iadd hx hb dL_law_856 ?_
  refine va_sld hx hb hX hbl hbA hH.2.2 (law_ix hN hj 2 (by decide)) dL_law_857 ?_
  refine k_ViR F hK hH hA hl.1 ⟨(Nat.le_of_ble_eq_true rfl), (Nat.le_of_ble_eq_true rfl)⟩ [.int (xv (Int32.toNatClampNeg (nI j + 1))), .int (xv (Int32.toNatClampNeg (nI j + 2)))] [.int ra.1] (ctX4_drive bd xs xm xi xw xh xl xr xe xn xo xp xu xd (xv (Int32.toNatClampNeg (nI j + 1))) (xv (Int32.toNatClampNeg (nI j + 2))) h2) (cwV 2 F.2.2.2.2 gL_law_X4_drive rfl rfl rfl hdVX4_drive ⟨(Nat.le_of_ble_eq_true rfl), (Nat.le_of_ble_eq_true rfl)⟩) dL_law_858 rfl rfl rfl rfl rfl (Nat.le_of_ble_eq_true rfl) rfl (fun H locs hH => ?_)
  have hH : Hs D (fun q : Nat => s.heap.size ≤ q) s.heap (wMn cI cJ cQ ad yn ra.2.1 yk yl yt yd yu ra.2.2 yv yo y0 y1 yc yh ++ wMd cI bd xs rb.2.1 xi xw xh xl xr rb.2.2 xn xo xp xu xd) H locs := hH
  refine lv_icmp_eq (tgt := 1336) hx hb dL_law_861 (by decide) (fun _ => ?_) (fun hc => ?_)
  · exact NEXT _ _ _ _ _ _ _ _ _ _ _ _ _ _ _ _ _ _ _ _ _ _ _ _ _ _ _ H locs ls hI hH hl
  · exact absurd hr hc

set_option maxHeartbeats 4000000 in
set_option maxRecDepth 100000 in
theorem law_c22 {p : Program} {l : Launch} {e : Env} {s : State} {m : MethodId} {below : List Frame} {meth : Method} {c : Code} {D : va_G} {cI cJ cQ : ClassId} {aK aV : Nat → Nat} {ad bd : Nat → Nat} {b N j : Nat} {xv : Nat → Int32} (F : CallFix p m c cL_law 4 s #[Value.ref b] wsL_law RL) (hK : KK D cI cJ cQ s) (hT : TXF aK aV (fun q : Nat => s.heap.size ≤ q) s s.heap) (hX : va_X b N xv s s.heap) (hbl : b < s.heap.size) (hN : N ≤ 3072) (hj : j + 6 ≤ N) (yn : LandT) (ym : LandT) (yk : LandT) (yl : (Nat → Int32)) (yt : Int32) (yd : Int32) (yu : (Nat → Int32)) (ye : (Nat → Int32)) (yv : (Nat → Int32)) (yo : (Nat → Int64)) (y0 : (Nat → Int32)) (y1 : (Nat → Int32)) (yc : Int32) (yh : Int32) (xs : (Nat → Int32)) (xm : (Nat → Int32)) (xi : (Nat → Int32)) (xw : (Nat → Int32)) (xh : Int32) (xl : (Nat → Int32)) (xr : (Nat → Int32)) (xe : (Nat → Int32)) (xn : Int32) (xo : Int32) (xp : Int32) (xu : (Nat → Int32)) (xd : Int32) {H : Heap} {locs : List Loc} {ls : Array Slot} (hI : Inv yn yk yl yt yu ye yc yh xs xi xh xl xr xe xn xo) (hH : Hs D (fun q : Nat => s.heap.size ≤ q) s.heap (wMn cI cJ cQ ad yn ym yk yl yt yd yu ye yv yo y0 y1 yc yh ++ wMd cI bd xs xm xi xw xh xl xr xe xn xo xp xu xd) H locs) (hl : lv_has ls 4 [(0, .ref b), (1, .ref (ad 0)), (2, .ref (bd 0)), (3, .int (nI j))]) (NEXT : ∀ (yn : LandT) (ym : LandT) (yk : LandT) (yl : (Nat → Int32)) (yt : Int32) (yd : Int32) (yu : (Nat → Int32)) (ye : (Nat → Int32)) (yv : (Nat → Int32)) (yo : (Nat → Int64)) (y0 : (Nat → Int32)) (y1 : (Nat → Int32)) (yc : Int32) (yh : Int32) (xs : (Nat → Int32)) (xm : (Nat → Int32)) (xi : (Nat → Int32)) (xw : (Nat → Int32)) (xh : Int32) (xl : (Nat → Int32)) (xr : (Nat → Int32)) (xe : (Nat → Int32)) (xn : Int32) (xo : Int32) (xp : Int32) (xu : (Nat → Int32)) (xd : Int32) (H : Heap) (locs : List Loc) (ls : Array Slot), Inv yn yk yl yt yu ye yc yh xs xi xh xl xr xe xn xo → Hs D (fun q : Nat => s.heap.size ≤ q) s.heap (wMn cI cJ cQ ad yn ym yk yl yt yd yu ye yv yo y0 y1 yc yh ++ wMd cI bd xs xm xi xw xh xl xr xe xn xo xp xu xd) H locs → lv_has ls 4 [(0, .ref b), (1, .ref (ad 0)), (2, .ref (bd 0)), (3, .int (nI j))] → W p l e room_1 s m #[Value.ref b] below meth c H locs 44 733 (lw_Z below #[Value.ref b] s) (F0 m 1336 ls [])) : W p l e room_1 s m #[Value.ref b] below meth c H locs 44 733 (lw_Z below #[Value.ref b] s) (F0 m 866 ls []) := by
  obtain ⟨hx, hb, hml, hown, hts⟩ := id F
  have hA : ∀ q : Nat, s.heap.size ≤ q → (fun q : Nat => s.heap.size ≤ q) q := fun _ h => h
  have hbA : ¬ (fun q : Nat => s.heap.size ≤ q) b := Nat.not_le.mpr hbl
  obtain ⟨ra, rb, h1, h2, hr, hI⟩ := st_hill yn ym yk yl yt yd yu ye yv yo y0 y1 yc yh xs xm xi xw xh xl xr xe xn xo xp xu xd (xv (Int32.toNatClampNeg (nI j + 1))) (xv (Int32.toNatClampNeg (nI j + 2))) hI
  refine lv_aload_n hx hb dL_law_866 rfl (lv_at hl 1 rfl) ?_
  refine lv_aload_n hx hb dL_law_867 rfl (lv_at hl 0 rfl) ?_
  refine lv_iload_n hx hb dL_law_868 rfl (lv_at hl 3 rfl) ?_
  refine lv_iconst (v := 1) hx hb dL_law_869 (by decide) ?_
  refine lv_iadd hx hb dL_law_870 ?_
  refine va_sld hx hb hX hbl hbA hH.2.2 (law_ix hN hj 1 (by decide)) dL_law_871 ?_
  refine lv_aload_n hx hb dL_law_872 rfl (lv_at hl 0 rfl) ?_
  refine lv_iload_n hx hb dL_law_873 rfl (lv_at hl 3 rfl) ?_
  refine lv_iconst (v := 2) hx hb dL_law_874 (by decide) ?_
  refine lv_iadd hx hb dL_law_875 ?_
  refine va_sld hx hb hX hbl hbA hH.2.2 (law_ix hN hj 2 (by decide)) dL_law_876 ?_
  refine k_ViL F hK hH hA hl.1 ⟨(Nat.le_of_ble_eq_true rfl), (Nat.le_of_ble_eq_true rfl)⟩ [.int (xv (Int32.toNatClampNeg (nI j + 1))), .int (xv (Int32.toNatClampNeg (nI j + 2)))] [] (ctX3_hill ad yn ym yk yl yt yd yu ye yv yo y0 y1 yc yh (xv (Int32.toNatClampNeg (nI j + 1))) (xv (Int32.toNatClampNeg (nI j + 2))) h1) (cwV 2 F.2.2.2.2 gL_law_X3_hill rfl rfl rfl hdVX3_hill ⟨(Nat.le_of_ble_eq_true rfl), (Nat.le_of_ble_eq_true rfl)⟩) dL_law_877 rfl rfl rfl rfl rfl (Nat.le_of_ble_eq_true rfl) rfl (fun H locs hH => ?_)
  have hH : Hs D (fun q : Nat => s.heap.size ≤ q) s.heap (wMn cI cJ cQ ad yn ra.2.1 yk yl yt yd yu ra.2.2 yv yo y0 y1 yc yh ++ wMd cI bd xs xm xi xw xh xl xr xe xn xo xp xu xd) H locs := hH
  refine lv_aload_n hx hb dL_law_880 rfl (lv_at hl 2 rfl) ?_
  refine lv_aload_n hx hb dL_law_881 rfl (lv_at hl 0 rfl) ?_
  refine lv_iload_n hx hb dL_law_882 rfl (lv_at hl 3 rfl) ?_
  refine lv_iconst (v := 1) hx hb dL_law_883 (by decide) ?_
  refine lv_iadd hx hb dL_law_884 ?_
  refine va_sld hx hb hX hbl hbA hH.2.2 (law_ix hN hj 1 (by decide)) dL_law_885 ?_
  refine lv_aload_n hx hb dL_law_886 rfl (lv_at hl 0 rfl) ?_
  refine lv_iload_n hx hb dL_law_887 rfl (lv_at hl 3 rfl) ?_
  refine lv_iconst (v := 2) hx hb dL_law_888 (by decide) ?_
  refine lv_iadd hx hb dL_law_889 ?_
  refine va_sld hx hb hX hbl hbA hH.2.2 (law_ix hN hj 2 (by decide)) dL_law_890 ?_
  refine k_ViR F hK hH hA hl.1 ⟨(Nat.le_of_ble_eq_true rfl), (Nat.le_of_ble_eq_true rfl)⟩ [.int (xv (Int32.toNatClampNeg (nI j + 1))), .int (xv (Int32.toNatClampNeg (nI j + 2)))] [.int ra.1] (ctX4_hill bd xs xm xi xw xh xl xr xe xn xo xp xu xd (xv (Int32.toNatClampNeg (nI j + 1))) (xv (Int32.toNatClampNeg (nI j + 2))) h2) (cwV 2 F.2.2.2.2 gL_law_X4_hill rfl rfl rfl hdVX4_hill ⟨(Nat.le_of_ble_eq_true rfl), (Nat.le_of_ble_eq_true rfl)⟩) dL_law_891 rfl rfl rfl rfl rfl (Nat.le_of_ble_eq_true rfl) rfl (fun H locs hH => ?_)
  have hH : Hs D (fun q : Nat => s.heap.size ≤ q) s.heap (wMn cI cJ cQ ad yn ra.2.1 yk yl yt yd yu ra.2.2 yv yo y0 y1 yc yh ++ wMd cI bd xs rb.2.1 xi xw xh xl xr rb.2.2 xn xo xp xu xd) H locs := hH
  refine lv_icmp_eq (tgt := 1336) hx hb dL_law_894 (by decide) (fun _ => ?_) (fun hc => ?_)
  · exact NEXT _ _ _ _ _ _ _ _ _ _ _ _ _ _ _ _ _ _ _ _ _ _ _ _ _ _ _ H locs ls hI hH hl
  · exact absurd hr hc

set_option maxHeartbeats 4000000 in
set_option maxRecDepth 100000 in
theorem law_c23 {p : Program} {l : Launch} {e : Env} {s : State} {m : MethodId} {below : List Frame} {meth : Method} {c : Code} {D : va_G} {cI cJ cQ : ClassId} {aK aV : Nat → Nat} {ad bd : Nat → Nat} {b N j : Nat} {xv : Nat → Int32} (F : CallFix p m c cL_law 4 s #[Value.ref b] wsL_law RL) (hK : KK D cI cJ cQ s) (hT : TXF aK aV (fun q : Nat => s.heap.size ≤ q) s s.heap) (hX : va_X b N xv s s.heap) (hbl : b < s.heap.size) (hN : N ≤ 3072) (hj : j + 6 ≤ N) (yn : LandT) (ym : LandT) (yk : LandT) (yl : (Nat → Int32)) (yt : Int32) (yd : Int32) (yu : (Nat → Int32)) (ye : (Nat → Int32)) (yv : (Nat → Int32)) (yo : (Nat → Int64)) (y0 : (Nat → Int32)) (y1 : (Nat → Int32)) (yc : Int32) (yh : Int32) (xs : (Nat → Int32)) (xm : (Nat → Int32)) (xi : (Nat → Int32)) (xw : (Nat → Int32)) (xh : Int32) (xl : (Nat → Int32)) (xr : (Nat → Int32)) (xe : (Nat → Int32)) (xn : Int32) (xo : Int32) (xp : Int32) (xu : (Nat → Int32)) (xd : Int32) {H : Heap} {locs : List Loc} {ls : Array Slot} (hI : Inv yn yk yl yt yu ye yc yh xs xi xh xl xr xe xn xo) (hH : Hs D (fun q : Nat => s.heap.size ≤ q) s.heap (wMn cI cJ cQ ad yn ym yk yl yt yd yu ye yv yo y0 y1 yc yh ++ wMd cI bd xs xm xi xw xh xl xr xe xn xo xp xu xd) H locs) (hl : lv_has ls 4 [(0, .ref b), (1, .ref (ad 0)), (2, .ref (bd 0)), (3, .int (nI j))]) (NEXT : ∀ (yn : LandT) (ym : LandT) (yk : LandT) (yl : (Nat → Int32)) (yt : Int32) (yd : Int32) (yu : (Nat → Int32)) (ye : (Nat → Int32)) (yv : (Nat → Int32)) (yo : (Nat → Int64)) (y0 : (Nat → Int32)) (y1 : (Nat → Int32)) (yc : Int32) (yh : Int32) (xs : (Nat → Int32)) (xm : (Nat → Int32)) (xi : (Nat → Int32)) (xw : (Nat → Int32)) (xh : Int32) (xl : (Nat → Int32)) (xr : (Nat → Int32)) (xe : (Nat → Int32)) (xn : Int32) (xo : Int32) (xp : Int32) (xu : (Nat → Int32)) (xd : Int32) (H : Heap) (locs : List Loc) (ls : Array Slot), Inv yn yk yl yt yu ye yc yh xs xi xh xl xr xe xn xo → Hs D (fun q : Nat => s.heap.size ≤ q) s.heap (wMn cI cJ cQ ad yn ym yk yl yt yd yu ye yv yo y0 y1 yc yh ++ wMd cI bd xs xm xi xw xh xl xr xe xn xo xp xu xd) H locs → lv_has ls 4 [(0, .ref b), (1, .ref (ad 0)), (2, .ref (bd 0)), (3, .int (nI j))] → W p l e room_1 s m #[Value.ref b] below meth c H locs 44 733 (lw_Z below #[Value.ref b] s) (F0 m 1336 ls [])) : W p l e room_1 s m #[Value.ref b] below meth c H locs 44 733 (lw_Z below #[Value.ref b] s) (F0 m 899 ls []) := by
  obtain ⟨hx, hb, hml, hown, hts⟩ := id F
  have hA : ∀ q : Nat, s.heap.size ≤ q → (fun q : Nat => s.heap.size ≤ q) q := fun _ h => h
  have hbA : ¬ (fun q : Nat => s.heap.size ≤ q) b := Nat.not_le.mpr hbl
  obtain ⟨ra, rb, h1, h2, hr, hI⟩ := st_hide yn ym yk yl yt yd yu ye yv yo y0 y1 yc yh xs xm xi xw xh xl xr xe xn xo xp xu xd (xv (Int32.toNatClampNeg (nI j + 1))) hI
  refine lv_aload_n hx hb dL_law_899 rfl (lv_at hl 1 rfl) ?_
  refine lv_aload_n hx hb dL_law_900 rfl (lv_at hl 0 rfl) ?_
  refine lv_iload_n hx hb dL_law_901 rfl (lv_at hl 3 rfl) ?_
  refine lv_iconst (v := 1) hx hb dL_law_902 (by decide) ?_
  refine lv_iadd hx hb dL_law_903 ?_
  refine va_sld hx hb hX hbl hbA hH.2.2 (law_ix hN hj 1 (by decide)) dL_law_904 ?_
  refine k_ViL F hK hH hA hl.1 ⟨(Nat.le_of_ble_eq_true rfl), (Nat.le_of_ble_eq_true rfl)⟩ [.int (xv (Int32.toNatClampNeg (nI j + 1)))] [] (ctX3_hide ad yn ym yk yl yt yd yu ye yv yo y0 y1 yc yh (xv (Int32.toNatClampNeg (nI j + 1))) h1) (cwV 1 F.2.2.2.2 gL_law_X3_hide rfl rfl rfl hdVX3_hide ⟨(Nat.le_of_ble_eq_true rfl), (Nat.le_of_ble_eq_true rfl)⟩) dL_law_905 rfl rfl rfl rfl rfl (Nat.le_of_ble_eq_true rfl) rfl (fun H locs hH => ?_)
  have hH : Hs D (fun q : Nat => s.heap.size ≤ q) s.heap (wMn cI cJ cQ ad yn ym yk yl yt yd yu ra.2.1 ra.2.2 yo y0 y1 yc yh ++ wMd cI bd xs xm xi xw xh xl xr xe xn xo xp xu xd) H locs := hH
  refine lv_aload_n hx hb dL_law_908 rfl (lv_at hl 2 rfl) ?_
  refine lv_aload_n hx hb dL_law_909 rfl (lv_at hl 0 rfl) ?_
  refine lv_iload_n hx hb dL_law_910 rfl (lv_at hl 3 rfl) ?_
  refine lv_iconst (v := 1) hx hb dL_law_911 (by decide) ?_
  refine lv_iadd hx hb dL_law_912 ?_
  refine va_sld hx hb hX hbl hbA hH.2.2 (law_ix hN hj 1 (by decide)) dL_law_913 ?_
  refine k_ViR F hK hH hA hl.1 ⟨(Nat.le_of_ble_eq_true rfl), (Nat.le_of_ble_eq_true rfl)⟩ [.int (xv (Int32.toNatClampNeg (nI j + 1)))] [.int ra.1] (ctX4_hide bd xs xm xi xw xh xl xr xe xn xo xp xu xd (xv (Int32.toNatClampNeg (nI j + 1))) h2) (cwV 1 F.2.2.2.2 gL_law_X4_hide rfl rfl rfl hdVX4_hide ⟨(Nat.le_of_ble_eq_true rfl), (Nat.le_of_ble_eq_true rfl)⟩) dL_law_914 rfl rfl rfl rfl rfl (Nat.le_of_ble_eq_true rfl) rfl (fun H locs hH => ?_)
  have hH : Hs D (fun q : Nat => s.heap.size ≤ q) s.heap (wMn cI cJ cQ ad yn ym yk yl yt yd yu ra.2.1 ra.2.2 yo y0 y1 yc yh ++ wMd cI bd xs rb.2.1 xi xw xh xl xr rb.2.2 xn xo xp xu xd) H locs := hH
  refine lv_icmp_eq (tgt := 1336) hx hb dL_law_917 (by decide) (fun _ => ?_) (fun hc => ?_)
  · exact NEXT _ _ _ _ _ _ _ _ _ _ _ _ _ _ _ _ _ _ _ _ _ _ _ _ _ _ _ H locs ls hI hH hl
  · exact absurd hr hc

set_option maxHeartbeats 4000000 in
set_option maxRecDepth 100000 in
theorem law_c24 {p : Program} {l : Launch} {e : Env} {s : State} {m : MethodId} {below : List Frame} {meth : Method} {c : Code} {D : va_G} {cI cJ cQ : ClassId} {aK aV : Nat → Nat} {ad bd : Nat → Nat} {b N j : Nat} {xv : Nat → Int32} (F : CallFix p m c cL_law 4 s #[Value.ref b] wsL_law RL) (hK : KK D cI cJ cQ s) (hT : TXF aK aV (fun q : Nat => s.heap.size ≤ q) s s.heap) (hX : va_X b N xv s s.heap) (hbl : b < s.heap.size) (hN : N ≤ 3072) (hj : j + 6 ≤ N) (yn : LandT) (ym : LandT) (yk : LandT) (yl : (Nat → Int32)) (yt : Int32) (yd : Int32) (yu : (Nat → Int32)) (ye : (Nat → Int32)) (yv : (Nat → Int32)) (yo : (Nat → Int64)) (y0 : (Nat → Int32)) (y1 : (Nat → Int32)) (yc : Int32) (yh : Int32) (xs : (Nat → Int32)) (xm : (Nat → Int32)) (xi : (Nat → Int32)) (xw : (Nat → Int32)) (xh : Int32) (xl : (Nat → Int32)) (xr : (Nat → Int32)) (xe : (Nat → Int32)) (xn : Int32) (xo : Int32) (xp : Int32) (xu : (Nat → Int32)) (xd : Int32) {H : Heap} {locs : List Loc} {ls : Array Slot} (hI : Inv yn yk yl yt yu ye yc yh xs xi xh xl xr xe xn xo) (hH : Hs D (fun q : Nat => s.heap.size ≤ q) s.heap (wMn cI cJ cQ ad yn ym yk yl yt yd yu ye yv yo y0 y1 yc yh ++ wMd cI bd xs xm xi xw xh xl xr xe xn xo xp xu xd) H locs) (hl : lv_has ls 4 [(0, .ref b), (1, .ref (ad 0)), (2, .ref (bd 0)), (3, .int (nI j))]) (NEXT : ∀ (yn : LandT) (ym : LandT) (yk : LandT) (yl : (Nat → Int32)) (yt : Int32) (yd : Int32) (yu : (Nat → Int32)) (ye : (Nat → Int32)) (yv : (Nat → Int32)) (yo : (Nat → Int64)) (y0 : (Nat → Int32)) (y1 : (Nat → Int32)) (yc : Int32) (yh : Int32) (xs : (Nat → Int32)) (xm : (Nat → Int32)) (xi : (Nat → Int32)) (xw : (Nat → Int32)) (xh : Int32) (xl : (Nat → Int32)) (xr : (Nat → Int32)) (xe : (Nat → Int32)) (xn : Int32) (xo : Int32) (xp : Int32) (xu : (Nat → Int32)) (xd : Int32) (H : Heap) (locs : List Loc) (ls : Array Slot), Inv yn yk yl yt yu ye yc yh xs xi xh xl xr xe xn xo → Hs D (fun q : Nat => s.heap.size ≤ q) s.heap (wMn cI cJ cQ ad yn ym yk yl yt yd yu ye yv yo y0 y1 yc yh ++ wMd cI bd xs xm xi xw xh xl xr xe xn xo xp xu xd) H locs → lv_has ls 4 [(0, .ref b), (1, .ref (ad 0)), (2, .ref (bd 0)), (3, .int (nI j))] → W p l e room_1 s m #[Value.ref b] below meth c H locs 44 733 (lw_Z below #[Value.ref b] s) (F0 m 1336 ls [])) : W p l e room_1 s m #[Value.ref b] below meth c H locs 44 733 (lw_Z below #[Value.ref b] s) (F0 m 922 ls []) := by
  obtain ⟨hx, hb, hml, hown, hts⟩ := id F
  have hA : ∀ q : Nat, s.heap.size ≤ q → (fun q : Nat => s.heap.size ≤ q) q := fun _ h => h
  have hbA : ¬ (fun q : Nat => s.heap.size ≤ q) b := Nat.not_le.mpr hbl
  obtain ⟨ra, rb, h1, h2, hr, hI⟩ := st_eyesBest yn ym yk yl yt yd yu ye yv yo y0 y1 yc yh xs xm xi xw xh xl xr xe xn xo xp xu xd (xv (Int32.toNatClampNeg (nI j + 1))) (xv (Int32.toNatClampNeg (nI j + 2))) (xv (Int32.toNatClampNeg (nI j + 3))) hI
  refine lv_aload_n hx hb dL_law_922 rfl (lv_at hl 1 rfl) ?_
  refine lv_aload_n hx hb dL_law_923 rfl (lv_at hl 0 rfl) ?_
  refine lv_iload_n hx hb dL_law_924 rfl (lv_at hl 3 rfl) ?_
  refine lv_iconst (v := 1) hx hb dL_law_925 (by decide) ?_
  refine lv_iadd hx hb dL_law_926 ?_
  refine va_sld hx hb hX hbl hbA hH.2.2 (law_ix hN hj 1 (by decide)) dL_law_927 ?_
  refine lv_aload_n hx hb dL_law_928 rfl (lv_at hl 0 rfl) ?_
  refine lv_iload_n hx hb dL_law_929 rfl (lv_at hl 3 rfl) ?_
  refine lv_iconst (v := 2) hx hb dL_law_930 (by decide) ?_
  refine lv_iadd hx hb dL_law_931 ?_
  refine va_sld hx hb hX hbl hbA hH.2.2 (law_ix hN hj 2 (by decide)) dL_law_932 ?_
  refine lv_aload_n hx hb dL_law_933 rfl (lv_at hl 0 rfl) ?_
  refine lv_iload_n hx hb dL_law_934 rfl (lv_at hl 3 rfl) ?_
  refine lv_iconst (v := 3) hx hb dL_law_935 (by decide) ?_
  refine lv_iadd hx hb dL_law_936 ?_
  refine va_sld hx hb hX hbl hbA hH.2.2 (law_ix hN hj 3 (by decide)) dL_law_937 ?_
  refine k_ViL F hK hH hA hl.1 ⟨(Nat.le_of_ble_eq_true rfl), (Nat.le_of_ble_eq_true rfl)⟩ [.int (xv (Int32.toNatClampNeg (nI j + 1))), .int (xv (Int32.toNatClampNeg (nI j + 2))), .int (xv (Int32.toNatClampNeg (nI j + 3)))] [] (ctX3_eyesBest ad yn ym yk yl yt yd yu ye yv yo y0 y1 yc yh (xv (Int32.toNatClampNeg (nI j + 1))) (xv (Int32.toNatClampNeg (nI j + 2))) (xv (Int32.toNatClampNeg (nI j + 3))) h1) (cwV 3 F.2.2.2.2 gL_law_X3_eyesBest rfl rfl rfl hdVX3_eyesBest ⟨(Nat.le_of_ble_eq_true rfl), (Nat.le_of_ble_eq_true rfl)⟩) dL_law_938 rfl rfl rfl rfl rfl (Nat.le_of_ble_eq_true rfl) rfl (fun H locs hH => ?_)
  have hH : Hs D (fun q : Nat => s.heap.size ≤ q) s.heap (wMn cI cJ cQ ad yn ra.2.1 yk yl yt yd yu ra.2.2 yv yo y0 y1 yc yh ++ wMd cI bd xs xm xi xw xh xl xr xe xn xo xp xu xd) H locs := hH
  refine lv_aload_n hx hb dL_law_941 rfl (lv_at hl 2 rfl) ?_
  refine lv_aload_n hx hb dL_law_942 rfl (lv_at hl 0 rfl) ?_
  refine lv_iload_n hx hb dL_law_943 rfl (lv_at hl 3 rfl) ?_
  refine lv_iconst (v := 1) hx hb dL_law_944 (by decide) ?_
  refine lv_iadd hx hb dL_law_945 ?_
  refine va_sld hx hb hX hbl hbA hH.2.2 (law_ix hN hj 1 (by decide)) dL_law_946 ?_
  refine lv_aload_n hx hb dL_law_947 rfl (lv_at hl 0 rfl) ?_
  refine lv_iload_n hx hb dL_law_948 rfl (lv_at hl 3 rfl) ?_
  refine lv_iconst (v := 2) hx hb dL_law_949 (by decide) ?_
  refine lv_iadd hx hb dL_law_950 ?_
  refine va_sld hx hb hX hbl hbA hH.2.2 (law_ix hN hj 2 (by decide)) dL_law_951 ?_
  refine lv_aload_n hx hb dL_law_952 rfl (lv_at hl 0 rfl) ?_
  refine lv_iload_n hx hb dL_law_953 rfl (lv_at hl 3 rfl) ?_
  refine lv_iconst (v := 3) hx hb dL_law_954 (by decide) ?_
  refine lv_iadd hx hb dL_law_955 ?_
  refine va_sld hx hb hX hbl hbA hH.2.2 (law_ix hN hj 3 (by decide)) dL_law_956 ?_
  refine k_ViR F hK hH hA hl.1 ⟨(Nat.le_of_ble_eq_true rfl), (Nat.le_of_ble_eq_true rfl)⟩ [.int (xv (Int32.toNatClampNeg (nI j + 1))), .int (xv (Int32.toNatClampNeg (nI j + 2))), .int (xv (Int32.toNatClampNeg (nI j + 3)))] [.int ra.1] (ctX4_eyesBest bd xs xm xi xw xh xl xr xe xn xo xp xu xd (xv (Int32.toNatClampNeg (nI j + 1))) (xv (Int32.toNatClampNeg (nI j + 2))) (xv (Int32.toNatClampNeg (nI j + 3))) h2) (cwV 3 F.2.2.2.2 gL_law_X4_eyesBest rfl rfl rfl hdVX4_eyesBest ⟨(Nat.le_of_ble_eq_true rfl), (Nat.le_of_ble_eq_true rfl)⟩) dL_law_957 rfl rfl rfl rfl rfl (Nat.le_of_ble_eq_true rfl) rfl (fun H locs hH => ?_)
  have hH : Hs D (fun q : Nat => s.heap.size ≤ q) s.heap (wMn cI cJ cQ ad yn ra.2.1 yk yl yt yd yu ra.2.2 yv yo y0 y1 yc yh ++ wMd cI bd xs rb.2.1 xi xw xh xl xr rb.2.2 xn xo xp xu xd) H locs := hH
  refine lv_icmp_eq (tgt := 1336) hx hb dL_law_960 (by decide) (fun _ => ?_) (fun hc => ?_)
  · exact NEXT _ _ _ _ _ _ _ _ _ _ _ _ _ _ _ _ _ _ _ _ _ _ _ _ _ _ _ H locs ls hI hH hl
  · exact absurd hr hc

set_option maxHeartbeats 4000000 in
set_option maxRecDepth 100000 in
theorem law_c25 {p : Program} {l : Launch} {e : Env} {s : State} {m : MethodId} {below : List Frame} {meth : Method} {c : Code} {D : va_G} {cI cJ cQ : ClassId} {aK aV : Nat → Nat} {ad bd : Nat → Nat} {b N j : Nat} {xv : Nat → Int32} (F : CallFix p m c cL_law 4 s #[Value.ref b] wsL_law RL) (hK : KK D cI cJ cQ s) (hT : TXF aK aV (fun q : Nat => s.heap.size ≤ q) s s.heap) (hX : va_X b N xv s s.heap) (hbl : b < s.heap.size) (hN : N ≤ 3072) (hj : j + 6 ≤ N) (yn : LandT) (ym : LandT) (yk : LandT) (yl : (Nat → Int32)) (yt : Int32) (yd : Int32) (yu : (Nat → Int32)) (ye : (Nat → Int32)) (yv : (Nat → Int32)) (yo : (Nat → Int64)) (y0 : (Nat → Int32)) (y1 : (Nat → Int32)) (yc : Int32) (yh : Int32) (xs : (Nat → Int32)) (xm : (Nat → Int32)) (xi : (Nat → Int32)) (xw : (Nat → Int32)) (xh : Int32) (xl : (Nat → Int32)) (xr : (Nat → Int32)) (xe : (Nat → Int32)) (xn : Int32) (xo : Int32) (xp : Int32) (xu : (Nat → Int32)) (xd : Int32) {H : Heap} {locs : List Loc} {ls : Array Slot} (hI : Inv yn yk yl yt yu ye yc yh xs xi xh xl xr xe xn xo) (hH : Hs D (fun q : Nat => s.heap.size ≤ q) s.heap (wMn cI cJ cQ ad yn ym yk yl yt yd yu ye yv yo y0 y1 yc yh ++ wMd cI bd xs xm xi xw xh xl xr xe xn xo xp xu xd) H locs) (hl : lv_has ls 4 [(0, .ref b), (1, .ref (ad 0)), (2, .ref (bd 0)), (3, .int (nI j))]) (NEXT : ∀ (yn : LandT) (ym : LandT) (yk : LandT) (yl : (Nat → Int32)) (yt : Int32) (yd : Int32) (yu : (Nat → Int32)) (ye : (Nat → Int32)) (yv : (Nat → Int32)) (yo : (Nat → Int64)) (y0 : (Nat → Int32)) (y1 : (Nat → Int32)) (yc : Int32) (yh : Int32) (xs : (Nat → Int32)) (xm : (Nat → Int32)) (xi : (Nat → Int32)) (xw : (Nat → Int32)) (xh : Int32) (xl : (Nat → Int32)) (xr : (Nat → Int32)) (xe : (Nat → Int32)) (xn : Int32) (xo : Int32) (xp : Int32) (xu : (Nat → Int32)) (xd : Int32) (H : Heap) (locs : List Loc) (ls : Array Slot), Inv yn yk yl yt yu ye yc yh xs xi xh xl xr xe xn xo → Hs D (fun q : Nat => s.heap.size ≤ q) s.heap (wMn cI cJ cQ ad yn ym yk yl yt yd yu ye yv yo y0 y1 yc yh ++ wMd cI bd xs xm xi xw xh xl xr xe xn xo xp xu xd) H locs → lv_has ls 4 [(0, .ref b), (1, .ref (ad 0)), (2, .ref (bd 0)), (3, .int (nI j))] → W p l e room_1 s m #[Value.ref b] below meth c H locs 44 733 (lw_Z below #[Value.ref b] s) (F0 m 1336 ls [])) : W p l e room_1 s m #[Value.ref b] below meth c H locs 44 733 (lw_Z below #[Value.ref b] s) (F0 m 965 ls []) := by
  obtain ⟨hx, hb, hml, hown, hts⟩ := id F
  have hA : ∀ q : Nat, s.heap.size ≤ q → (fun q : Nat => s.heap.size ≤ q) q := fun _ h => h
  have hbA : ¬ (fun q : Nat => s.heap.size ≤ q) b := Nat.not_le.mpr hbl
  obtain ⟨ra, rb, h1, h2, hr, hI⟩ := st_ranked yn ym yk yl yt yd yu ye yv yo y0 y1 yc yh xs xm xi xw xh xl xr xe xn xo xp xu xd (xv (Int32.toNatClampNeg (nI j + 1))) (xv (Int32.toNatClampNeg (nI j + 2))) hI
  refine lv_aload_n hx hb dL_law_965 rfl (lv_at hl 1 rfl) ?_
  refine lv_aload_n hx hb dL_law_966 rfl (lv_at hl 0 rfl) ?_
  refine lv_iload_n hx hb dL_law_967 rfl (lv_at hl 3 rfl) ?_
  refine lv_iconst (v := 1) hx hb dL_law_968 (by decide) ?_
  refine lv_iadd hx hb dL_law_969 ?_
  refine va_sld hx hb hX hbl hbA hH.2.2 (law_ix hN hj 1 (by decide)) dL_law_970 ?_
  refine lv_aload_n hx hb dL_law_971 rfl (lv_at hl 0 rfl) ?_
  refine lv_iload_n hx hb dL_law_972 rfl (lv_at hl 3 rfl) ?_
  refine lv_iconst (v := 2) hx hb dL_law_973 (by decide) ?_
  refine lv_iadd hx hb dL_law_974 ?_
  refine va_sld hx hb hX hbl hbA hH.2.2 (law_ix hN hj 2 (by decide)) dL_law_975 ?_
  refine k_ViL F hK hH hA hl.1 ⟨(Nat.le_of_ble_eq_true rfl), (Nat.le_of_ble_eq_true rfl)⟩ [.int (xv (Int32.toNatClampNeg (nI j + 1))), .int (xv (Int32.toNatClampNeg (nI j + 2)))] [] (ctX3_ranked ad yn ym yk yl yt yd yu ye yv yo y0 y1 yc yh (xv (Int32.toNatClampNeg (nI j + 1))) (xv (Int32.toNatClampNeg (nI j + 2))) h1) (cwV 2 F.2.2.2.2 gL_law_X3_ranked rfl rfl rfl hdVX3_ranked ⟨(Nat.le_of_ble_eq_true rfl), (Nat.le_of_ble_eq_true rfl)⟩) dL_law_976 rfl rfl rfl rfl rfl (Nat.le_of_ble_eq_true rfl) rfl (fun H locs hH => ?_)
  have hH : Hs D (fun q : Nat => s.heap.size ≤ q) s.heap (wMn cI cJ cQ ad yn ra.2.1 yk yl yt yd yu ra.2.2 yv yo y0 y1 yc yh ++ wMd cI bd xs xm xi xw xh xl xr xe xn xo xp xu xd) H locs := hH
  refine lv_aload_n hx hb dL_law_979 rfl (lv_at hl 2 rfl) ?_
  refine lv_aload_n hx hb dL_law_980 rfl (lv_at hl 0 rfl) ?_
  refine lv_iload_n hx hb dL_law_981 rfl (lv_at hl 3 rfl) ?_
  refine lv_iconst (v := 1) hx hb dL_law_982 (by decide) ?_
  refine lv_iadd hx hb dL_law_983 ?_
  refine va_sld hx hb hX hbl hbA hH.2.2 (law_ix hN hj 1 (by decide)) dL_law_984 ?_
  refine lv_aload_n hx hb dL_law_985 rfl (lv_at hl 0 rfl) ?_
  refine lv_iload_n hx hb dL_law_986 rfl (lv_at hl 3 rfl) ?_
  refine lv_iconst (v := 2) hx hb dL_law_987 (by decide) ?_
  refine lv_iadd hx hb dL_law_988 ?_
  refine va_sld hx hb hX hbl hbA hH.2.2 (law_ix hN hj 2 (by decide)) dL_law_989 ?_
  refine k_ViR F hK hH hA hl.1 ⟨(Nat.le_of_ble_eq_true rfl), (Nat.le_of_ble_eq_true rfl)⟩ [.int (xv (Int32.toNatClampNeg (nI j + 1))), .int (xv (Int32.toNatClampNeg (nI j + 2)))] [.int ra.1] (ctX4_ranked bd xs xm xi xw xh xl xr xe xn xo xp xu xd (xv (Int32.toNatClampNeg (nI j + 1))) (xv (Int32.toNatClampNeg (nI j + 2))) h2) (cwV 2 F.2.2.2.2 gL_law_X4_ranked rfl rfl rfl hdVX4_ranked ⟨(Nat.le_of_ble_eq_true rfl), (Nat.le_of_ble_eq_true rfl)⟩) dL_law_990 rfl rfl rfl rfl rfl (Nat.le_of_ble_eq_true rfl) rfl (fun H locs hH => ?_)
  have hH : Hs D (fun q : Nat => s.heap.size ≤ q) s.heap (wMn cI cJ cQ ad yn ra.2.1 yk yl yt yd yu ra.2.2 yv yo y0 y1 yc yh ++ wMd cI bd xs rb.2.1 xi xw xh xl xr rb.2.2 xn xo xp xu xd) H locs := hH
  refine lv_icmp_eq (tgt := 1336) hx hb dL_law_993 (by decide) (fun _ => ?_) (fun hc => ?_)
  · exact NEXT _ _ _ _ _ _ _ _ _ _ _ _ _ _ _ _ _ _ _ _ _ _ _ _ _ _ _ H locs ls hI hH hl
  · exact absurd hr hc

set_option maxHeartbeats 4000000 in
set_option maxRecDepth 100000 in
theorem law_c26 {p : Program} {l : Launch} {e : Env} {s : State} {m : MethodId} {below : List Frame} {meth : Method} {c : Code} {D : va_G} {cI cJ cQ : ClassId} {aK aV : Nat → Nat} {ad bd : Nat → Nat} {b N j : Nat} {xv : Nat → Int32} (F : CallFix p m c cL_law 4 s #[Value.ref b] wsL_law RL) (hK : KK D cI cJ cQ s) (hT : TXF aK aV (fun q : Nat => s.heap.size ≤ q) s s.heap) (hX : va_X b N xv s s.heap) (hbl : b < s.heap.size) (hN : N ≤ 3072) (hj : j + 6 ≤ N) (yn : LandT) (ym : LandT) (yk : LandT) (yl : (Nat → Int32)) (yt : Int32) (yd : Int32) (yu : (Nat → Int32)) (ye : (Nat → Int32)) (yv : (Nat → Int32)) (yo : (Nat → Int64)) (y0 : (Nat → Int32)) (y1 : (Nat → Int32)) (yc : Int32) (yh : Int32) (xs : (Nat → Int32)) (xm : (Nat → Int32)) (xi : (Nat → Int32)) (xw : (Nat → Int32)) (xh : Int32) (xl : (Nat → Int32)) (xr : (Nat → Int32)) (xe : (Nat → Int32)) (xn : Int32) (xo : Int32) (xp : Int32) (xu : (Nat → Int32)) (xd : Int32) {H : Heap} {locs : List Loc} {ls : Array Slot} (hI : Inv yn yk yl yt yu ye yc yh xs xi xh xl xr xe xn xo) (hH : Hs D (fun q : Nat => s.heap.size ≤ q) s.heap (wMn cI cJ cQ ad yn ym yk yl yt yd yu ye yv yo y0 y1 yc yh ++ wMd cI bd xs xm xi xw xh xl xr xe xn xo xp xu xd) H locs) (hl : lv_has ls 4 [(0, .ref b), (1, .ref (ad 0)), (2, .ref (bd 0)), (3, .int (nI j))]) (NEXT : ∀ (yn : LandT) (ym : LandT) (yk : LandT) (yl : (Nat → Int32)) (yt : Int32) (yd : Int32) (yu : (Nat → Int32)) (ye : (Nat → Int32)) (yv : (Nat → Int32)) (yo : (Nat → Int64)) (y0 : (Nat → Int32)) (y1 : (Nat → Int32)) (yc : Int32) (yh : Int32) (xs : (Nat → Int32)) (xm : (Nat → Int32)) (xi : (Nat → Int32)) (xw : (Nat → Int32)) (xh : Int32) (xl : (Nat → Int32)) (xr : (Nat → Int32)) (xe : (Nat → Int32)) (xn : Int32) (xo : Int32) (xp : Int32) (xu : (Nat → Int32)) (xd : Int32) (H : Heap) (locs : List Loc) (ls : Array Slot), Inv yn yk yl yt yu ye yc yh xs xi xh xl xr xe xn xo → Hs D (fun q : Nat => s.heap.size ≤ q) s.heap (wMn cI cJ cQ ad yn ym yk yl yt yd yu ye yv yo y0 y1 yc yh ++ wMd cI bd xs xm xi xw xh xl xr xe xn xo xp xu xd) H locs → lv_has ls 4 [(0, .ref b), (1, .ref (ad 0)), (2, .ref (bd 0)), (3, .int (nI j))] → W p l e room_1 s m #[Value.ref b] below meth c H locs 44 733 (lw_Z below #[Value.ref b] s) (F0 m 1336 ls [])) : W p l e room_1 s m #[Value.ref b] below meth c H locs 44 733 (lw_Z below #[Value.ref b] s) (F0 m 998 ls []) := by
  obtain ⟨hx, hb, hml, hown, hts⟩ := id F
  have hA : ∀ q : Nat, s.heap.size ≤ q → (fun q : Nat => s.heap.size ≤ q) q := fun _ h => h
  have hbA : ¬ (fun q : Nat => s.heap.size ≤ q) b := Nat.not_le.mpr hbl
  obtain ⟨ra, rb, h1, h2, hr, hI⟩ := st_window yn ym yk yl yt yd yu ye yv yo y0 y1 yc yh xs xm xi xw xh xl xr xe xn xo xp xu xd (xv (Int32.toNatClampNeg (nI j + 1))) hI
  refine lv_aload_n hx hb dL_law_998 rfl (lv_at hl 1 rfl) ?_
  refine lv_aload_n hx hb dL_law_999 rfl (lv_at hl 0 rfl) ?_
  refine lv_iload_n hx hb dL_law_1000 rfl (lv_at hl 3 rfl) ?_
  refine lv_iconst (v := 1) hx hb dL_law_1001 (by decide) ?_
  refine lv_iadd hx hb dL_law_1002 ?_
  refine va_sld hx hb hX hbl hbA hH.2.2 (law_ix hN hj 1 (by decide)) dL_law_1003 ?_
  refine k_ViL F hK hH hA hl.1 ⟨(Nat.le_of_ble_eq_true rfl), (Nat.le_of_ble_eq_true rfl)⟩ [.int (xv (Int32.toNatClampNeg (nI j + 1)))] [] (ctX3_window ad yn ym yk yl yt yd yu ye yv yo y0 y1 yc yh (xv (Int32.toNatClampNeg (nI j + 1))) h1) (cwV 1 F.2.2.2.2 gL_law_X3_window rfl rfl rfl hdVX3_window ⟨(Nat.le_of_ble_eq_true rfl), (Nat.le_of_ble_eq_true rfl)⟩) dL_law_1004 rfl rfl rfl rfl rfl (Nat.le_of_ble_eq_true rfl) rfl (fun H locs hH => ?_)
  have hH : Hs D (fun q : Nat => s.heap.size ≤ q) s.heap (wMn cI cJ cQ ad yn ym yk yl yt yd yu ra.2 yv yo y0 y1 yc yh ++ wMd cI bd xs xm xi xw xh xl xr xe xn xo xp xu xd) H locs := hH
  refine lv_aload_n hx hb dL_law_1007 rfl (lv_at hl 2 rfl) ?_
  refine lv_aload_n hx hb dL_law_1008 rfl (lv_at hl 0 rfl) ?_
  refine lv_iload_n hx hb dL_law_1009 rfl (lv_at hl 3 rfl) ?_
  refine lv_iconst (v := 1) hx hb dL_law_1010 (by decide) ?_
  refine lv_iadd hx hb dL_law_1011 ?_
  refine va_sld hx hb hX hbl hbA hH.2.2 (law_ix hN hj 1 (by decide)) dL_law_1012 ?_
  refine k_ViR F hK hH hA hl.1 ⟨(Nat.le_of_ble_eq_true rfl), (Nat.le_of_ble_eq_true rfl)⟩ [.int (xv (Int32.toNatClampNeg (nI j + 1)))] [.int ra.1] (ctX4_window bd xs xm xi xw xh xl xr xe xn xo xp xu xd (xv (Int32.toNatClampNeg (nI j + 1))) h2) (cwV 1 F.2.2.2.2 gL_law_X4_window rfl rfl rfl hdVX4_window ⟨(Nat.le_of_ble_eq_true rfl), (Nat.le_of_ble_eq_true rfl)⟩) dL_law_1013 rfl rfl rfl rfl rfl (Nat.le_of_ble_eq_true rfl) rfl (fun H locs hH => ?_)
  have hH : Hs D (fun q : Nat => s.heap.size ≤ q) s.heap (wMn cI cJ cQ ad yn ym yk yl yt yd yu ra.2 yv yo y0 y1 yc yh ++ wMd cI bd xs xm xi xw xh xl xr rb.2 xn xo xp xu xd) H locs := hH
  refine lv_icmp_eq (tgt := 1336) hx hb dL_law_1016 (by decide) (fun _ => ?_) (fun hc => ?_)
  · exact NEXT _ _ _ _ _ _ _ _ _ _ _ _ _ _ _ _ _ _ _ _ _ _ _ _ _ _ _ H locs ls hI hH hl
  · exact absurd hr hc

set_option maxHeartbeats 4000000 in
set_option maxRecDepth 100000 in
theorem law_c27 {p : Program} {l : Launch} {e : Env} {s : State} {m : MethodId} {below : List Frame} {meth : Method} {c : Code} {D : va_G} {cI cJ cQ : ClassId} {aK aV : Nat → Nat} {ad bd : Nat → Nat} {b N j : Nat} {xv : Nat → Int32} (F : CallFix p m c cL_law 4 s #[Value.ref b] wsL_law RL) (hK : KK D cI cJ cQ s) (hT : TXF aK aV (fun q : Nat => s.heap.size ≤ q) s s.heap) (hX : va_X b N xv s s.heap) (hbl : b < s.heap.size) (hN : N ≤ 3072) (hj : j + 6 ≤ N) (yn : LandT) (ym : LandT) (yk : LandT) (yl : (Nat → Int32)) (yt : Int32) (yd : Int32) (yu : (Nat → Int32)) (ye : (Nat → Int32)) (yv : (Nat → Int32)) (yo : (Nat → Int64)) (y0 : (Nat → Int32)) (y1 : (Nat → Int32)) (yc : Int32) (yh : Int32) (xs : (Nat → Int32)) (xm : (Nat → Int32)) (xi : (Nat → Int32)) (xw : (Nat → Int32)) (xh : Int32) (xl : (Nat → Int32)) (xr : (Nat → Int32)) (xe : (Nat → Int32)) (xn : Int32) (xo : Int32) (xp : Int32) (xu : (Nat → Int32)) (xd : Int32) {H : Heap} {locs : List Loc} {ls : Array Slot} (hI : Inv yn yk yl yt yu ye yc yh xs xi xh xl xr xe xn xo) (hH : Hs D (fun q : Nat => s.heap.size ≤ q) s.heap (wMn cI cJ cQ ad yn ym yk yl yt yd yu ye yv yo y0 y1 yc yh ++ wMd cI bd xs xm xi xw xh xl xr xe xn xo xp xu xd) H locs) (hl : lv_has ls 4 [(0, .ref b), (1, .ref (ad 0)), (2, .ref (bd 0)), (3, .int (nI j))]) (NEXT : ∀ (yn : LandT) (ym : LandT) (yk : LandT) (yl : (Nat → Int32)) (yt : Int32) (yd : Int32) (yu : (Nat → Int32)) (ye : (Nat → Int32)) (yv : (Nat → Int32)) (yo : (Nat → Int64)) (y0 : (Nat → Int32)) (y1 : (Nat → Int32)) (yc : Int32) (yh : Int32) (xs : (Nat → Int32)) (xm : (Nat → Int32)) (xi : (Nat → Int32)) (xw : (Nat → Int32)) (xh : Int32) (xl : (Nat → Int32)) (xr : (Nat → Int32)) (xe : (Nat → Int32)) (xn : Int32) (xo : Int32) (xp : Int32) (xu : (Nat → Int32)) (xd : Int32) (H : Heap) (locs : List Loc) (ls : Array Slot), Inv yn yk yl yt yu ye yc yh xs xi xh xl xr xe xn xo → Hs D (fun q : Nat => s.heap.size ≤ q) s.heap (wMn cI cJ cQ ad yn ym yk yl yt yd yu ye yv yo y0 y1 yc yh ++ wMd cI bd xs xm xi xw xh xl xr xe xn xo xp xu xd) H locs → lv_has ls 4 [(0, .ref b), (1, .ref (ad 0)), (2, .ref (bd 0)), (3, .int (nI j))] → W p l e room_1 s m #[Value.ref b] below meth c H locs 44 733 (lw_Z below #[Value.ref b] s) (F0 m 1336 ls [])) : W p l e room_1 s m #[Value.ref b] below meth c H locs 44 733 (lw_Z below #[Value.ref b] s) (F0 m 1021 ls []) := by
  obtain ⟨hx, hb, hml, hown, hts⟩ := id F
  have hA : ∀ q : Nat, s.heap.size ≤ q → (fun q : Nat => s.heap.size ≤ q) q := fun _ h => h
  have hbA : ¬ (fun q : Nat => s.heap.size ≤ q) b := Nat.not_le.mpr hbl
  obtain ⟨ra, rb, h1, h2, hr, hI⟩ := st_two yn ym yk yl yt yd yu ye yv yo y0 y1 yc yh xs xm xi xw xh xl xr xe xn xo xp xu xd (xv (Int32.toNatClampNeg (nI j + 1))) (xv (Int32.toNatClampNeg (nI j + 2))) (xv (Int32.toNatClampNeg (nI j + 3))) hI
  refine lv_aload_n hx hb dL_law_1021 rfl (lv_at hl 1 rfl) ?_
  refine lv_aload_n hx hb dL_law_1022 rfl (lv_at hl 0 rfl) ?_
  refine lv_iload_n hx hb dL_law_1023 rfl (lv_at hl 3 rfl) ?_
  refine lv_iconst (v := 1) hx hb dL_law_1024 (by decide) ?_
  refine lv_iadd hx hb dL_law_1025 ?_
  refine va_sld hx hb hX hbl hbA hH.2.2 (law_ix hN hj 1 (by decide)) dL_law_1026 ?_
  refine lv_aload_n hx hb dL_law_1027 rfl (lv_at hl 0 rfl) ?_
  refine lv_iload_n hx hb dL_law_1028 rfl (lv_at hl 3 rfl) ?_
  refine lv_iconst (v := 2) hx hb dL_law_1029 (by decide) ?_
  refine lv_iadd hx hb dL_law_1030 ?_
  refine va_sld hx hb hX hbl hbA hH.2.2 (law_ix hN hj 2 (by decide)) dL_law_1031 ?_
  refine lv_aload_n hx hb dL_law_1032 rfl (lv_at hl 0 rfl) ?_
  refine lv_iload_n hx hb dL_law_1033 rfl (lv_at hl 3 rfl) ?_
  refine lv_iconst (v := 3) hx hb dL_law_1034 (by decide) ?_
  refine lv_iadd hx hb dL_law_1035 ?_
  refine va_sld hx hb hX hbl hbA hH.2.2 (law_ix hN hj 3 (by decide)) dL_law_1036 ?_
  refine k_ViL F hK hH hA hl.1 ⟨(Nat.le_of_ble_eq_true rfl), (Nat.le_of_ble_eq_true rfl)⟩ [.int (xv (Int32.toNatClampNeg (nI j + 1))), .int (xv (Int32.toNatClampNeg (nI j + 2))), .int (xv (Int32.toNatClampNeg (nI j + 3)))] [] (ctX3_two ad yn ym yk yl yt yd yu ye yv yo y0 y1 yc yh (xv (Int32.toNatClampNeg (nI j + 1))) (xv (Int32.toNatClampNeg (nI j + 2))) (xv (Int32.toNatClampNeg (nI j + 3))) h1) (cwV 3 F.2.2.2.2 gL_law_X3_two rfl rfl rfl hdVX3_two ⟨(Nat.le_of_ble_eq_true rfl), (Nat.le_of_ble_eq_true rfl)⟩) dL_law_1037 rfl rfl rfl rfl rfl (Nat.le_of_ble_eq_true rfl) rfl (fun H locs hH => ?_)
  have hH : Hs D (fun q : Nat => s.heap.size ≤ q) s.heap (wMn cI cJ cQ ad yn ra.2.1 yk yl yt yd yu ra.2.2.1 yv yo ra.2.2.2.1 ra.2.2.2.2 yc yh ++ wMd cI bd xs xm xi xw xh xl xr xe xn xo xp xu xd) H locs := hH
  refine lv_aload_n hx hb dL_law_1040 rfl (lv_at hl 2 rfl) ?_
  refine lv_aload_n hx hb dL_law_1041 rfl (lv_at hl 0 rfl) ?_
  refine lv_iload_n hx hb dL_law_1042 rfl (lv_at hl 3 rfl) ?_
  refine lv_iconst (v := 1) hx hb dL_law_1043 (by decide) ?_
  refine lv_iadd hx hb dL_law_1044 ?_
  refine va_sld hx hb hX hbl hbA hH.2.2 (law_ix hN hj 1 (by decide)) dL_law_1045 ?_
  refine lv_aload_n hx hb dL_law_1046 rfl (lv_at hl 0 rfl) ?_
  refine lv_iload_n hx hb dL_law_1047 rfl (lv_at hl 3 rfl) ?_
  refine lv_iconst (v := 2) hx hb dL_law_1048 (by decide) ?_
  refine lv_iadd hx hb dL_law_1049 ?_
  refine va_sld hx hb hX hbl hbA hH.2.2 (law_ix hN hj 2 (by decide)) dL_law_1050 ?_
  refine lv_aload_n hx hb dL_law_1051 rfl (lv_at hl 0 rfl) ?_
  refine lv_iload_n hx hb dL_law_1052 rfl (lv_at hl 3 rfl) ?_
  refine lv_iconst (v := 3) hx hb dL_law_1053 (by decide) ?_
  refine lv_iadd hx hb dL_law_1054 ?_
  refine va_sld hx hb hX hbl hbA hH.2.2 (law_ix hN hj 3 (by decide)) dL_law_1055 ?_
  refine k_ViR F hK hH hA hl.1 ⟨(Nat.le_of_ble_eq_true rfl), (Nat.le_of_ble_eq_true rfl)⟩ [.int (xv (Int32.toNatClampNeg (nI j + 1))), .int (xv (Int32.toNatClampNeg (nI j + 2))), .int (xv (Int32.toNatClampNeg (nI j + 3)))] [.int ra.1] (ctX4_two bd xs xm xi xw xh xl xr xe xn xo xp xu xd (xv (Int32.toNatClampNeg (nI j + 1))) (xv (Int32.toNatClampNeg (nI j + 2))) (xv (Int32.toNatClampNeg (nI j + 3))) h2) (cwV 3 F.2.2.2.2 gL_law_X4_two rfl rfl rfl hdVX4_two ⟨(Nat.le_of_ble_eq_true rfl), (Nat.le_of_ble_eq_true rfl)⟩) dL_law_1056 rfl rfl rfl rfl rfl (Nat.le_of_ble_eq_true rfl) rfl (fun H locs hH => ?_)
  have hH : Hs D (fun q : Nat => s.heap.size ≤ q) s.heap (wMn cI cJ cQ ad yn ra.2.1 yk yl yt yd yu ra.2.2.1 yv yo ra.2.2.2.1 ra.2.2.2.2 yc yh ++ wMd cI bd xs rb.2.1 xi xw xh xl xr rb.2.2 xn xo xp xu xd) H locs := hH
  refine lv_icmp_eq (tgt := 1336) hx hb dL_law_1059 (by decide) (fun _ => ?_) (fun hc => ?_)
  · exact NEXT _ _ _ _ _ _ _ _ _ _ _ _ _ _ _ _ _ _ _ _ _ _ _ _ _ _ _ H locs ls hI hH hl
  · exact absurd hr hc

set_option maxHeartbeats 4000000 in
set_option maxRecDepth 100000 in
theorem law_c28 {p : Program} {l : Launch} {e : Env} {s : State} {m : MethodId} {below : List Frame} {meth : Method} {c : Code} {D : va_G} {cI cJ cQ : ClassId} {aK aV : Nat → Nat} {ad bd : Nat → Nat} {b N j : Nat} {xv : Nat → Int32} (F : CallFix p m c cL_law 4 s #[Value.ref b] wsL_law RL) (hK : KK D cI cJ cQ s) (hT : TXF aK aV (fun q : Nat => s.heap.size ≤ q) s s.heap) (hX : va_X b N xv s s.heap) (hbl : b < s.heap.size) (hN : N ≤ 3072) (hj : j + 6 ≤ N) (yn : LandT) (ym : LandT) (yk : LandT) (yl : (Nat → Int32)) (yt : Int32) (yd : Int32) (yu : (Nat → Int32)) (ye : (Nat → Int32)) (yv : (Nat → Int32)) (yo : (Nat → Int64)) (y0 : (Nat → Int32)) (y1 : (Nat → Int32)) (yc : Int32) (yh : Int32) (xs : (Nat → Int32)) (xm : (Nat → Int32)) (xi : (Nat → Int32)) (xw : (Nat → Int32)) (xh : Int32) (xl : (Nat → Int32)) (xr : (Nat → Int32)) (xe : (Nat → Int32)) (xn : Int32) (xo : Int32) (xp : Int32) (xu : (Nat → Int32)) (xd : Int32) {H : Heap} {locs : List Loc} {ls : Array Slot} (hI : Inv yn yk yl yt yu ye yc yh xs xi xh xl xr xe xn xo) (hH : Hs D (fun q : Nat => s.heap.size ≤ q) s.heap (wMn cI cJ cQ ad yn ym yk yl yt yd yu ye yv yo y0 y1 yc yh ++ wMd cI bd xs xm xi xw xh xl xr xe xn xo xp xu xd) H locs) (hl : lv_has ls 4 [(0, .ref b), (1, .ref (ad 0)), (2, .ref (bd 0)), (3, .int (nI j))]) (NEXT : ∀ (yn : LandT) (ym : LandT) (yk : LandT) (yl : (Nat → Int32)) (yt : Int32) (yd : Int32) (yu : (Nat → Int32)) (ye : (Nat → Int32)) (yv : (Nat → Int32)) (yo : (Nat → Int64)) (y0 : (Nat → Int32)) (y1 : (Nat → Int32)) (yc : Int32) (yh : Int32) (xs : (Nat → Int32)) (xm : (Nat → Int32)) (xi : (Nat → Int32)) (xw : (Nat → Int32)) (xh : Int32) (xl : (Nat → Int32)) (xr : (Nat → Int32)) (xe : (Nat → Int32)) (xn : Int32) (xo : Int32) (xp : Int32) (xu : (Nat → Int32)) (xd : Int32) (H : Heap) (locs : List Loc) (ls : Array Slot), Inv yn yk yl yt yu ye yc yh xs xi xh xl xr xe xn xo → Hs D (fun q : Nat => s.heap.size ≤ q) s.heap (wMn cI cJ cQ ad yn ym yk yl yt yd yu ye yv yo y0 y1 yc yh ++ wMd cI bd xs xm xi xw xh xl xr xe xn xo xp xu xd) H locs → lv_has ls 4 [(0, .ref b), (1, .ref (ad 0)), (2, .ref (bd 0)), (3, .int (nI j))] → W p l e room_1 s m #[Value.ref b] below meth c H locs 44 733 (lw_Z below #[Value.ref b] s) (F0 m 1336 ls [])) : W p l e room_1 s m #[Value.ref b] below meth c H locs 44 733 (lw_Z below #[Value.ref b] s) (F0 m 1064 ls []) := by
  obtain ⟨hx, hb, hml, hown, hts⟩ := id F
  have hA : ∀ q : Nat, s.heap.size ≤ q → (fun q : Nat => s.heap.size ≤ q) q := fun _ h => h
  have hbA : ¬ (fun q : Nat => s.heap.size ≤ q) b := Nat.not_le.mpr hbl
  obtain ⟨ra, rb, h1, h2, hr, hI⟩ := st_mist yn ym yk yl yt yd yu ye yv yo y0 y1 yc yh xs xm xi xw xh xl xr xe xn xo xp xu xd (xv (Int32.toNatClampNeg (nI j + 1))) (xv (Int32.toNatClampNeg (nI j + 2))) (xv (Int32.toNatClampNeg (nI j + 3))) (xv (Int32.toNatClampNeg (nI j + 4))) (xv (Int32.toNatClampNeg (nI j + 5))) hI
  refine lv_aload_n hx hb dL_law_1064 rfl (lv_at hl 1 rfl) ?_
  refine lv_aload_n hx hb dL_law_1065 rfl (lv_at hl 0 rfl) ?_
  refine lv_iload_n hx hb dL_law_1066 rfl (lv_at hl 3 rfl) ?_
  refine lv_iconst (v := 1) hx hb dL_law_1067 (by decide) ?_
  refine lv_iadd hx hb dL_law_1068 ?_
  refine va_sld hx hb hX hbl hbA hH.2.2 (law_ix hN hj 1 (by decide)) dL_law_1069 ?_
  refine lv_aload_n hx hb dL_law_1070 rfl (lv_at hl 0 rfl) ?_
  refine lv_iload_n hx hb dL_law_1071 rfl (lv_at hl 3 rfl) ?_
  refine lv_iconst (v := 2) hx hb dL_law_1072 (by decide) ?_
  refine lv_iadd hx hb dL_law_1073 ?_
  refine va_sld hx hb hX hbl hbA hH.2.2 (law_ix hN hj 2 (by decide)) dL_law_1074 ?_
  refine lv_aload_n hx hb dL_law_1075 rfl (lv_at hl 0 rfl) ?_
  refine lv_iload_n hx hb dL_law_1076 rfl (lv_at hl 3 rfl) ?_
  refine lv_iconst (v := 3) hx hb dL_law_1077 (by decide) ?_
  refine lv_iadd hx hb dL_law_1078 ?_
  refine va_sld hx hb hX hbl hbA hH.2.2 (law_ix hN hj 3 (by decide)) dL_law_1079 ?_
  refine lv_aload_n hx hb dL_law_1080 rfl (lv_at hl 0 rfl) ?_
  refine lv_iload_n hx hb dL_law_1081 rfl (lv_at hl 3 rfl) ?_
  refine lv_iconst (v := 4) hx hb dL_law_1082 (by decide) ?_
  refine lv_iadd hx hb dL_law_1083 ?_
  refine va_sld hx hb hX hbl hbA hH.2.2 (law_ix hN hj 4 (by decide)) dL_law_1084 ?_
  refine lv_aload_n hx hb dL_law_1085 rfl (lv_at hl 0 rfl) ?_
  refine lv_iload_n hx hb dL_law_1086 rfl (lv_at hl 3 rfl) ?_
  refine lv_iconst (v := 5) hx hb dL_law_1087 (by decide) ?_
  refine lv_iadd hx hb dL_law_1088 ?_
  refine va_sld hx hb hX hbl hbA hH.2.2 (law_ix hN hj 5 (by decide)) dL_law_1089 ?_
  refine k_VlL F hK hH hA hl.1 ⟨(Nat.le_of_ble_eq_true rfl), (Nat.le_of_ble_eq_true rfl)⟩ [.int (xv (Int32.toNatClampNeg (nI j + 1))), .int (xv (Int32.toNatClampNeg (nI j + 2))), .int (xv (Int32.toNatClampNeg (nI j + 3))), .int (xv (Int32.toNatClampNeg (nI j + 4))), .int (xv (Int32.toNatClampNeg (nI j + 5)))] [] (ctX3_mist ad yn ym yk yl yt yd yu ye yv yo y0 y1 yc yh (xv (Int32.toNatClampNeg (nI j + 1))) (xv (Int32.toNatClampNeg (nI j + 2))) (xv (Int32.toNatClampNeg (nI j + 3))) (xv (Int32.toNatClampNeg (nI j + 4))) (xv (Int32.toNatClampNeg (nI j + 5))) h1) (cwV 5 F.2.2.2.2 gL_law_X3_mist rfl rfl rfl hdVX3_mist ⟨(Nat.le_of_ble_eq_true rfl), (Nat.le_of_ble_eq_true rfl)⟩) dL_law_1090 rfl rfl rfl rfl rfl (Nat.le_of_ble_eq_true rfl) rfl (fun H locs hH => ?_)
  have hH : Hs D (fun q : Nat => s.heap.size ≤ q) s.heap (wMn cI cJ cQ ad yn ra.2.1 yk yl yt yd yu ra.2.2.1 yv ra.2.2.2 y0 y1 yc yh ++ wMd cI bd xs xm xi xw xh xl xr xe xn xo xp xu xd) H locs := hH
  refine lv_aload_n hx hb dL_law_1093 rfl (lv_at hl 2 rfl) ?_
  refine lv_aload_n hx hb dL_law_1094 rfl (lv_at hl 0 rfl) ?_
  refine lv_iload_n hx hb dL_law_1095 rfl (lv_at hl 3 rfl) ?_
  refine lv_iconst (v := 1) hx hb dL_law_1096 (by decide) ?_
  refine lv_iadd hx hb dL_law_1097 ?_
  refine va_sld hx hb hX hbl hbA hH.2.2 (law_ix hN hj 1 (by decide)) dL_law_1098 ?_
  refine lv_aload_n hx hb dL_law_1099 rfl (lv_at hl 0 rfl) ?_
  refine lv_iload_n hx hb dL_law_1100 rfl (lv_at hl 3 rfl) ?_
  refine lv_iconst (v := 2) hx hb dL_law_1101 (by decide) ?_
  refine lv_iadd hx hb dL_law_1102 ?_
  refine va_sld hx hb hX hbl hbA hH.2.2 (law_ix hN hj 2 (by decide)) dL_law_1103 ?_
  refine lv_aload_n hx hb dL_law_1104 rfl (lv_at hl 0 rfl) ?_
  refine lv_iload_n hx hb dL_law_1105 rfl (lv_at hl 3 rfl) ?_
  refine lv_iconst (v := 3) hx hb dL_law_1106 (by decide) ?_
  refine lv_iadd hx hb dL_law_1107 ?_
  refine va_sld hx hb hX hbl hbA hH.2.2 (law_ix hN hj 3 (by decide)) dL_law_1108 ?_
  refine lv_aload_n hx hb dL_law_1109 rfl (lv_at hl 0 rfl) ?_
  refine lv_iload_n hx hb dL_law_1110 rfl (lv_at hl 3 rfl) ?_
  refine lv_iconst (v := 4) hx hb dL_law_1111 (by decide) ?_
  refine lv_iadd hx hb dL_law_1112 ?_
  refine va_sld hx hb hX hbl hbA hH.2.2 (law_ix hN hj 4 (by decide)) dL_law_1113 ?_
  refine lv_aload_n hx hb dL_law_1114 rfl (lv_at hl 0 rfl) ?_
  refine lv_iload_n hx hb dL_law_1115 rfl (lv_at hl 3 rfl) ?_
  refine lv_iconst (v := 5) hx hb dL_law_1116 (by decide) ?_
  refine lv_iadd hx hb dL_law_1117 ?_
  refine va_sld hx hb hX hbl hbA hH.2.2 (law_ix hN hj 5 (by decide)) dL_law_1118 ?_
  refine k_VlR F hK hH hA hl.1 ⟨(Nat.le_of_ble_eq_true rfl), (Nat.le_of_ble_eq_true rfl)⟩ [.int (xv (Int32.toNatClampNeg (nI j + 1))), .int (xv (Int32.toNatClampNeg (nI j + 2))), .int (xv (Int32.toNatClampNeg (nI j + 3))), .int (xv (Int32.toNatClampNeg (nI j + 4))), .int (xv (Int32.toNatClampNeg (nI j + 5)))] [.long ra.1] (ctX4_mist bd xs xm xi xw xh xl xr xe xn xo xp xu xd (xv (Int32.toNatClampNeg (nI j + 1))) (xv (Int32.toNatClampNeg (nI j + 2))) (xv (Int32.toNatClampNeg (nI j + 3))) (xv (Int32.toNatClampNeg (nI j + 4))) (xv (Int32.toNatClampNeg (nI j + 5))) h2) (cwV 5 F.2.2.2.2 gL_law_X4_mist rfl rfl rfl hdVX4_mist ⟨(Nat.le_of_ble_eq_true rfl), (Nat.le_of_ble_eq_true rfl)⟩) dL_law_1119 rfl rfl rfl rfl rfl (Nat.le_of_ble_eq_true rfl) rfl (fun H locs hH => ?_)
  have hH : Hs D (fun q : Nat => s.heap.size ≤ q) s.heap (wMn cI cJ cQ ad yn ra.2.1 yk yl yt yd yu ra.2.2.1 yv ra.2.2.2 y0 y1 yc yh ++ wMd cI bd xs rb.2.1 xi xw xh xl xr rb.2.2 xn xo xp xu xd) H locs := hH
  refine W.lcmp hx hb dL_law_1122 ?_
  refine lv_if_eq (tgt := 1336) hx hb dL_law_1123 (by decide) (fun _ => ?_) (fun hc => ?_)
  · exact NEXT _ _ _ _ _ _ _ _ _ _ _ _ _ _ _ _ _ _ _ _ _ _ _ _ _ _ _ H locs ls hI hH hl
  · exact absurd (by rw [hr]; exact law_cmp _) hc

