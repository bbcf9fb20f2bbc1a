/-! ===== the law's loop and start ===== -/
set_option maxHeartbeats 4000000 in
set_option maxRecDepth 100000 in
theorem law_loop {p : Program} {l : Launch} {e : Env} {s : State} {m : MethodId} {below : List Frame} {meth : Method} {c : Code} {D : va_G} {cI cJ cQ : ClassId} {aK aV : Nat → Nat} {ad bd : Nat → Nat} {b N : Nat} {xv : Nat → Int32} (F : CallFix p m c cL_law 4 s #[Value.ref b] wsL_law RL) (hK : KK D cI cJ cQ s) (hT : TXF aK aV (fun q : Nat => s.heap.size ≤ q) s s.heap) (hX : va_X b N xv s s.heap) (hbl : b < s.heap.size) (hN : N ≤ 3072) (hr : meth.sig.returnType = ret) (hlocks : meth.locks = false) : ∀ (n j : Nat), j ≤ N → N + 7 ≤ j + n → ∀ (yn : LandT) (ym : LandT) (yk : LandT) (yl : (Nat → Int32)) (yt : Int32) (yd : Int32) (yu : (Nat → Int32)) (ye : (Nat → Int32)) (yv : (Nat → Int32)) (yo : (Nat → Int64)) (y0 : (Nat → Int32)) (y1 : (Nat → Int32)) (yc : Int32) (yh : Int32) (xs : (Nat → Int32)) (xm : (Nat → Int32)) (xi : (Nat → Int32)) (xw : (Nat → Int32)) (xh : Int32) (xl : (Nat → Int32)) (xr : (Nat → Int32)) (xe : (Nat → Int32)) (xn : Int32) (xo : Int32) (xp : Int32) (xu : (Nat → Int32)) (xd : Int32) (H : Heap) (locs : List Loc) (ls : Array Slot), Inv yn yk yl yt yu ye yc yh xs xi xh xl xr xe xn xo → Hs D (fun q : Nat => s.heap.size ≤ q) s.heap (wMn cI cJ cQ ad yn ym yk yl yt yd yu ye yv yo y0 y1 yc yh ++ wMd cI bd xs xm xi xw xh xl xr xe xn xo xp xu xd) H locs → lv_has ls 4 [(0, .ref b), (1, .ref (ad 0)), (2, .ref (bd 0)), (3, .int (nI j))] → W p l e room_1 s m #[Value.ref b] below meth c H locs 44 733 (lw_Z below #[Value.ref b] s) (F0 m 18 ls []) := by
  obtain ⟨hx, hb, hml, hown, hts⟩ := id F
  have hA : ∀ q : Nat, s.heap.size ≤ q → (fun q : Nat => s.heap.size ≤ q) q := fun _ h => h
  have hbA : ¬ (fun q : Nat => s.heap.size ≤ q) b := Nat.not_le.mpr hbl
  intro n
  induction n with
  | zero =>
    intro j h1 h2
    exact absurd h2 (by omega)
  | succ n ih =>
    intro j hjN hjn yn ym yk yl yt yd yu ye yv yo y0 y1 yc yh xs xm xi xw xh xl xr xe xn xo xp xu xd H locs ls hI hH hl
    refine lv_iload_n hx hb dL_law_18 rfl (lv_at hl 3 rfl) ?_
    refine lv_aload_n hx hb dL_law_19 rfl (lv_at hl 0 rfl) ?_
    refine va_slen hx hb hX hbl hbA hH.2.2 dL_law_20 ?_
    refine lv_bipush (v := 6) hx hb dL_law_21 (by decide) ?_
    refine lv_isub hx hb dL_law_23 ?_
    have hle : (Int32.ofNat N - 6 : Int32).toInt = (N : Int) - 6 := pk_sub_toInt (a := N) (b := 6) (by omega) (by omega)
    have hji : (nI j).toInt = (j : Int) := nI_toInt (by omega)
    refine lv_icmp_gt (tgt := 1342) hx hb dL_law_24 (by decide) (fun hc => ?_) (fun hc => ?_)
    · refine lv_iconst (v := 1) hx hb dL_law_1342 (by decide) ?_
      refine va_forget (fun q hq => hH.2.2.2.2 q hq) ?_
      refine W.widen (k := 600000) (n := 7302250) (Nat.le_of_ble_eq_true rfl) (Nat.le_of_ble_eq_true rfl) ?_
      exact lw_ret hx hb hr hlocks dL_law_1343
    · have hj6 : j + 6 ≤ N := by
        have h1 : ¬ (Int32.ofNat N - 6 : Int32).toInt < (nI j).toInt := fun h => hc (Int32.lt_iff_toInt_lt.mpr h)
        rw [hle, hji] at h1
        omega
      have NEXT : ∀ (yn : LandT) (ym : LandT) (yk : LandT) (yl : (Nat → Int32)) (yt : Int32) (yd : Int32) (yu : (Nat → Int32)) (ye : (Nat → Int32)) (yv : (Nat → Int32)) (yo : (Nat → Int64)) (y0 : (Nat → Int32)) (y1 : (Nat → Int32)) (yc : Int32) (yh : Int32) (xs : (Nat → Int32)) (xm : (Nat → Int32)) (xi : (Nat → Int32)) (xw : (Nat → Int32)) (xh : Int32) (xl : (Nat → Int32)) (xr : (Nat → Int32)) (xe : (Nat → Int32)) (xn : Int32) (xo : Int32) (xp : Int32) (xu : (Nat → Int32)) (xd : Int32) (H : Heap) (locs : List Loc) (ls : Array Slot), Inv yn yk yl yt yu ye yc yh xs xi xh xl xr xe xn xo → Hs D (fun q : Nat => s.heap.size ≤ q) s.heap (wMn cI cJ cQ ad yn ym yk yl yt yd yu ye yv yo y0 y1 yc yh ++ wMd cI bd xs xm xi xw xh xl xr xe xn xo xp xu xd) H locs → lv_has ls 4 [(0, .ref b), (1, .ref (ad 0)), (2, .ref (bd 0)), (3, .int (nI j))] → W p l e room_1 s m #[Value.ref b] below meth c H locs 44 733 (lw_Z below #[Value.ref b] s) (F0 m 1336 ls []) := by
        intro yn ym yk yl yt yd yu ye yv yo y0 y1 yc yh xs xm xi xw xh xl xr xe xn xo xp xu xd H locs ls hI hH hl
        refine lv_iinc (v := nI (j + 6)) (lv' := [(3, .int (nI (j + 6))), (0, .ref b), (1, .ref (ad 0)), (2, .ref (bd 0))]) hx hb dL_law_1336 hl (k := 3) rfl (nI_add j 6) (by decide) rfl (fun ls hl => ?_)
        refine lv_goto (tgt := 18) hx hb dL_law_1339 (by decide) ?_
        exact ih (j + 6) hj6 (by omega) yn ym yk yl yt yd yu ye yv yo y0 y1 yc yh xs xm xi xw xh xl xr xe xn xo xp xu xd H locs ls hI hH (lv_sub hl [1, 2, 3, 0] rfl)
      refine lv_aload_n hx hb dL_law_27 rfl (lv_at hl 0 rfl) ?_
      refine lv_iload_n hx hb dL_law_28 rfl (lv_at hl 3 rfl) ?_
      refine va_sld hx hb hX hbl hbA hH.2.2 (vp_in_nI (by omega) (by omega)) dL_law_29 ?_
      refine lv_bipush (v := 63) hx hb dL_law_30 (by decide) ?_
      refine lv_iand hx hb dL_law_32 ?_
      refine lv_topi (fun y _ => ?_)
      by_cases hc0 : y = 0
      · refine lv_tableIn (tgt := 200) hx hb dL_law_33 (by rw [hc0]; decide) (by rw [hc0]; decide) (by rw [hc0]; try rfl) (by decide) ?_
        exact law_c0 F hK hT hX hbl hN hj6 yn ym yk yl yt yd yu ye yv yo y0 y1 yc yh xs xm xi xw xh xl xr xe xn xo xp xu xd hI hH hl NEXT
      by_cases hc1 : y = 1
      · refine lv_tableIn (tgt := 223) hx hb dL_law_33 (by rw [hc1]; decide) (by rw [hc1]; decide) (by rw [hc1]; try rfl) (by decide) ?_
        exact law_c1 F hK hT hX hbl hN hj6 yn ym yk yl yt yd yu ye yv yo y0 y1 yc yh xs xm xi xw xh xl xr xe xn xo xp xu xd hI hH hl NEXT
      by_cases hc2 : y = 2
      · refine lv_tableIn (tgt := 236) hx hb dL_law_33 (by rw [hc2]; decide) (by rw [hc2]; decide) (by rw [hc2]; try rfl) (by decide) ?_
        exact law_c2 F hK hT hX hbl hN hj6 yn ym yk yl yt yd yu ye yv yo y0 y1 yc yh xs xm xi xw xh xl xr xe xn xo xp xu xd hI hH hl NEXT
      by_cases hc3 : y = 3
      · refine lv_tableIn (tgt := 269) hx hb dL_law_33 (by rw [hc3]; decide) (by rw [hc3]; decide) (by rw [hc3]; try rfl) (by decide) ?_
        exact law_c3 F hK hT hX hbl hN hj6 yn ym yk yl yt yd yu ye yv yo y0 y1 yc yh xs xm xi xw xh xl xr xe xn xo xp xu xd hI hH hl NEXT
      by_cases hc4 : y = 4
      · refine lv_tableIn (tgt := 292) hx hb dL_law_33 (by rw [hc4]; decide) (by rw [hc4]; decide) (by rw [hc4]; try rfl) (by decide) ?_
        exact law_c4 F hK hT hX hbl hN hj6 yn ym yk yl yt yd yu ye yv yo y0 y1 yc yh xs xm xi xw xh xl xr xe xn xo xp xu xd hI hH hl NEXT
      by_cases hc5 : y = 5
      · refine lv_tableIn (tgt := 325) hx hb dL_law_33 (by rw [hc5]; decide) (by rw [hc5]; decide) (by rw [hc5]; try rfl) (by decide) ?_
        exact law_c5 F hK hT hX hbl hN hj6 yn ym yk yl yt yd yu ye yv yo y0 y1 yc yh xs xm xi xw xh xl xr xe xn xo xp xu xd hI hH hl NEXT
      by_cases hc6 : y = 6
      · refine lv_tableIn (tgt := 358) hx hb dL_law_33 (by rw [hc6]; decide) (by rw [hc6]; decide) (by rw [hc6]; try rfl) (by decide) ?_
        exact law_c6 F hK hT hX hbl hN hj6 yn ym yk yl yt yd yu ye yv yo y0 y1 yc yh xs xm xi xw xh xl xr xe xn xo xp xu xd hI hH hl NEXT
      by_cases hc7 : y = 7
      · refine lv_tableIn (tgt := 391) hx hb dL_law_33 (by rw [hc7]; decide) (by rw [hc7]; decide) (by rw [hc7]; try rfl) (by decide) ?_
        exact law_c7 F hK hT hX hbl hN hj6 yn ym yk yl yt yd yu ye yv yo y0 y1 yc yh xs xm xi xw xh xl xr xe xn xo xp xu xd hI hH hl NEXT
      by_cases hc8 : y = 8
      · refine lv_tableIn (tgt := 414) hx hb dL_law_33 (by rw [hc8]; decide) (by rw [hc8]; decide) (by rw [hc8]; try rfl) (by decide) ?_
        exact law_c8 F hK hT hX hbl hN hj6 yn ym yk yl yt yd yu ye yv yo y0 y1 yc yh xs xm xi xw xh xl xr xe xn xo xp xu xd hI hH hl NEXT
      by_cases hc9 : y = 9
      · refine lv_tableIn (tgt := 457) hx hb dL_law_33 (by rw [hc9]; decide) (by rw [hc9]; decide) (by rw [hc9]; try rfl) (by decide) ?_
        exact law_c9 F hK hT hX hbl hN hj6 yn ym yk yl yt yd yu ye yv yo y0 y1 yc yh xs xm xi xw xh xl xr xe xn xo xp xu xd hI hH hl NEXT
      by_cases hc10 : y = 10
      · refine lv_tableIn (tgt := 480) hx hb dL_law_33 (by rw [hc10]; decide) (by rw [hc10]; decide) (by rw [hc10]; try rfl) (by decide) ?_
        exact law_c10 F hK hT hX hbl hN hj6 yn ym yk yl yt yd yu ye yv yo y0 y1 yc yh xs xm xi xw xh xl xr xe xn xo xp xu xd hI hH hl NEXT
      by_cases hc11 : y = 11
      · refine lv_tableIn (tgt := 523) hx hb dL_law_33 (by rw [hc11]; decide) (by rw [hc11]; decide) (by rw [hc11]; try rfl) (by decide) ?_
        exact law_c11 F hK hT hX hbl hN hj6 yn ym yk yl yt yd yu ye yv yo y0 y1 yc yh xs xm xi xw xh xl xr xe xn xo xp xu xd hI hH hl NEXT
      by_cases hc12 : y = 12
      · refine lv_tableIn (tgt := 546) hx hb dL_law_33 (by rw [hc12]; decide) (by rw [hc12]; decide) (by rw [hc12]; try rfl) (by decide) ?_
        exact law_c12 F hK hT hX hbl hN hj6 yn ym yk yl yt yd yu ye yv yo y0 y1 yc yh xs xm xi xw xh xl xr xe xn xo xp xu xd hI hH hl NEXT
      by_cases hc13 : y = 13
      · refine lv_tableIn (tgt := 579) hx hb dL_law_33 (by rw [hc13]; decide) (by rw [hc13]; decide) (by rw [hc13]; try rfl) (by decide) ?_
        exact law_c13 F hK hT hX hbl hN hj6 yn ym yk yl yt yd yu ye yv yo y0 y1 yc yh xs xm xi xw xh xl xr xe xn xo xp xu xd hI hH hl NEXT
      by_cases hc14 : y = 14
      · refine lv_tableIn (tgt := 612) hx hb dL_law_33 (by rw [hc14]; decide) (by rw [hc14]; decide) (by rw [hc14]; try rfl) (by decide) ?_
        exact law_c14 F hK hT hX hbl hN hj6 yn ym yk yl yt yd yu ye yv yo y0 y1 yc yh xs xm xi xw xh xl xr xe xn xo xp xu xd hI hH hl NEXT
      by_cases hc15 : y = 15
      · refine lv_tableIn (tgt := 655) hx hb dL_law_33 (by rw [hc15]; decide) (by rw [hc15]; decide) (by rw [hc15]; try rfl) (by decide) ?_
        exact law_c15 F hK hT hX hbl hN hj6 yn ym yk yl yt yd yu ye yv yo y0 y1 yc yh xs xm xi xw xh xl xr xe xn xo xp xu xd hI hH hl NEXT
      by_cases hc16 : y = 16
      · refine lv_tableIn (tgt := 688) hx hb dL_law_33 (by rw [hc16]; decide) (by rw [hc16]; decide) (by rw [hc16]; try rfl) (by decide) ?_
        exact law_c16 F hK hT hX hbl hN hj6 yn ym yk yl yt yd yu ye yv yo y0 y1 yc yh xs xm xi xw xh xl xr xe xn xo xp xu xd hI hH hl NEXT
      by_cases hc17 : y = 17
      · refine lv_tableIn (tgt := 731) hx hb dL_law_33 (by rw [hc17]; decide) (by rw [hc17]; decide) (by rw [hc17]; try rfl) (by decide) ?_
        exact law_c17 F hK hT hX hbl hN hj6 yn ym yk yl yt yd yu ye yv yo y0 y1 yc yh xs xm xi xw xh xl xr xe xn xo xp xu xd hI hH hl NEXT
      by_cases hc18 : y = 18
      · refine lv_tableIn (tgt := 744) hx hb dL_law_33 (by rw [hc18]; decide) (by rw [hc18]; decide) (by rw [hc18]; try rfl) (by decide) ?_
        exact law_c18 F hK hT hX hbl hN hj6 yn ym yk yl yt yd yu ye yv yo y0 y1 yc yh xs xm xi xw xh xl xr xe xn xo xp xu xd hI hH hl NEXT
      by_cases hc19 : y = 19
      · refine lv_tableIn (tgt := 767) hx hb dL_law_33 (by rw [hc19]; decide) (by rw [hc19]; decide) (by rw [hc19]; try rfl) (by decide) ?_
        exact law_c19 F hK hT hX hbl hN hj6 yn ym yk yl yt yd yu ye yv yo y0 y1 yc yh xs xm xi xw xh xl xr xe xn xo xp xu xd hI hH hl NEXT
      by_cases hc20 : y = 20
      · refine lv_tableIn (tgt := 790) hx hb dL_law_33 (by rw [hc20]; decide) (by rw [hc20]; decide) (by rw [hc20]; try rfl) (by decide) ?_
        exact law_c20 F hK hT hX hbl hN hj6 yn ym yk yl yt yd yu ye yv yo y0 y1 yc yh xs xm xi xw xh xl xr xe xn xo xp xu xd hI hH hl NEXT
      by_cases hc21 : y = 21
      · refine lv_tableIn (tgt := 833) hx hb dL_law_33 (by rw [hc21]; decide) (by rw [hc21]; decide) (by rw [hc21]; try rfl) (by decide) ?_
        exact law_c21 F hK hT hX hbl hN hj6 yn ym yk yl yt yd yu ye yv yo y0 y1 yc yh xs xm xi xw xh xl xr xe xn xo xp xu xd hI hH hl NEXT
      by_cases hc22 : y = 22
      · refine lv_tableIn (tgt := 866) hx hb dL_law_33 (by rw [hc22]; decide) (by rw [hc22]; decide) (by rw [hc22]; try rfl) (by decide) ?_
        exact law_c22 F hK hT hX hbl hN hj6 yn ym yk yl yt yd yu ye yv yo y0 y1 yc yh xs xm xi xw xh xl xr xe xn xo xp xu xd hI hH hl NEXT
      by_cases hc23 : y = 23
      · refine lv_tableIn (tgt := 899) hx hb dL_law_33 (by rw [hc23]; decide) (by rw [hc23]; decide) (by rw [hc23]; try rfl) (by decide) ?_
        exact law_c23 F hK hT hX hbl hN hj6 yn ym yk yl yt yd yu ye yv yo y0 y1 yc yh xs xm xi xw xh xl xr xe xn xo xp xu xd hI hH hl NEXT
      by_cases hc24 : y = 24
      · refine lv_tableIn (tgt := 922) hx hb dL_law_33 (by rw [hc24]; decide) (by rw [hc24]; decide) (by rw [hc24]; try rfl) (by decide) ?_
        exact law_c24 F hK hT hX hbl hN hj6 yn ym yk yl yt yd yu ye yv yo y0 y1 yc yh xs xm xi xw xh xl xr xe xn xo xp xu xd hI hH hl NEXT
      by_cases hc25 : y = 25
      · refine lv_tableIn (tgt := 965) hx hb dL_law_33 (by rw [hc25]; decide) (by rw [hc25]; decide) (by rw [hc25]; try rfl) (by decide) ?_
        exact law_c25 F hK hT hX hbl hN hj6 yn ym yk yl yt yd yu ye yv yo y0 y1 yc yh xs xm xi xw xh xl xr xe xn xo xp xu xd hI hH hl NEXT
      by_cases hc26 : y = 26
      · refine lv_tableIn (tgt := 998) hx hb dL_law_33 (by rw [hc26]; decide) (by rw [hc26]; decide) (by rw [hc26]; try rfl) (by decide) ?_
        exact law_c26 F hK hT hX hbl hN hj6 yn ym yk yl yt yd yu ye yv yo y0 y1 yc yh xs xm xi xw xh xl xr xe xn xo xp xu xd hI hH hl NEXT
      by_cases hc27 : y = 27
      · refine lv_tableIn (tgt := 1021) hx hb dL_law_33 (by rw [hc27]; decide) (by rw [hc27]; decide) (by rw [hc27]; try rfl) (by decide) ?_
        exact law_c27 F hK hT hX hbl hN hj6 yn ym yk yl yt yd yu ye yv yo y0 y1 yc yh xs xm xi xw xh xl xr xe xn xo xp xu xd hI hH hl NEXT
      by_cases hc28 : y = 28
      · refine lv_tableIn (tgt := 1064) hx hb dL_law_33 (by rw [hc28]; decide) (by rw [hc28]; decide) (by rw [hc28]; try rfl) (by decide) ?_
        exact law_c28 F hK hT hX hbl hN hj6 yn ym yk yl yt yd yu ye yv yo y0 y1 yc yh xs xm xi xw xh xl xr xe xn xo xp xu xd hI hH hl NEXT
      by_cases hc29 : y = 29
      · refine lv_tableIn (tgt := 1128) hx hb dL_law_33 (by rw [hc29]; decide) (by rw [hc29]; decide) (by rw [hc29]; try rfl) (by decide) ?_
        exact law_c29 F hK hT hX hbl hN hj6 yn ym yk yl yt yd yu ye yv yo y0 y1 yc yh xs xm xi xw xh xl xr xe xn xo xp xu xd hI hH hl NEXT
      by_cases hc30 : y = 30
      · refine lv_tableIn (tgt := 1152) hx hb dL_law_33 (by rw [hc30]; decide) (by rw [hc30]; decide) (by rw [hc30]; try rfl) (by decide) ?_
        exact law_c30 F hK hT hX hbl hN hj6 yn ym yk yl yt yd yu ye yv yo y0 y1 yc yh xs xm xi xw xh xl xr xe xn xo xp xu xd hI hH hl NEXT
      by_cases hc31 : y = 31
      · refine lv_tableIn (tgt := 1195) hx hb dL_law_33 (by rw [hc31]; decide) (by rw [hc31]; decide) (by rw [hc31]; try rfl) (by decide) ?_
        exact law_c31 F hK hT hX hbl hN hj6 yn ym yk yl yt yd yu ye yv yo y0 y1 yc yh xs xm xi xw xh xl xr xe xn xo xp xu xd hI hH hl NEXT
      by_cases hc32 : y = 32
      · refine lv_tableIn (tgt := 1218) hx hb dL_law_33 (by rw [hc32]; decide) (by rw [hc32]; decide) (by rw [hc32]; try rfl) (by decide) ?_
        exact law_c32 F hK hT hX hbl hN hj6 yn ym yk yl yt yd yu ye yv yo y0 y1 yc yh xs xm xi xw xh xl xr xe xn xo xp xu xd hI hH hl NEXT
      by_cases hc33 : y = 33
      · refine lv_tableIn (tgt := 1231) hx hb dL_law_33 (by rw [hc33]; decide) (by rw [hc33]; decide) (by rw [hc33]; try rfl) (by decide) ?_
        exact law_c33 F hK hT hX hbl hN hj6 yn ym yk yl yt yd yu ye yv yo y0 y1 yc yh xs xm xi xw xh xl xr xe xn xo xp xu xd hI hH hl NEXT
      by_cases hc34 : y = 34
      · refine lv_tableIn (tgt := 1244) hx hb dL_law_33 (by rw [hc34]; decide) (by rw [hc34]; decide) (by rw [hc34]; try rfl) (by decide) ?_
        exact law_c34 F hK hT hX hbl hN hj6 yn ym yk yl yt yd yu ye yv yo y0 y1 yc yh xs xm xi xw xh xl xr xe xn xo xp xu xd hI hH hl NEXT
      by_cases hc35 : y = 35
      · refine lv_tableIn (tgt := 1287) hx hb dL_law_33 (by rw [hc35]; decide) (by rw [hc35]; decide) (by rw [hc35]; try rfl) (by decide) ?_
        exact law_c35 F hK hT hX hbl hN hj6 yn ym yk yl yt yd yu ye yv yo y0 y1 yc yh xs xm xi xw xh xl xr xe xn xo xp xu xd hI hH hl NEXT
      by_cases hc36 : y = 36
      · refine lv_tableIn (tgt := 1300) hx hb dL_law_33 (by rw [hc36]; decide) (by rw [hc36]; decide) (by rw [hc36]; try rfl) (by decide) ?_
        exact law_c36 F hK hT hX hbl hN hj6 yn ym yk yl yt yd yu ye yv yo y0 y1 yc yh xs xm xi xw xh xl xr xe xn xo xp xu xd hI hH hl NEXT
      by_cases hc37 : y = 37
      · refine lv_tableIn (tgt := 1313) hx hb dL_law_33 (by rw [hc37]; decide) (by rw [hc37]; decide) (by rw [hc37]; try rfl) (by decide) ?_
        exact law_c37 F hK hT hX hbl hN hj6 yn ym yk yl yt yd yu ye yv yo y0 y1 yc yh xs xm xi xw xh xl xr xe xn xo xp xu xd hI hH hl NEXT
      have hs0 := sw_ne hc0 (show (0 : Int32).toInt = 0 from rfl)
      have hs1 := sw_ne hc1 (show (1 : Int32).toInt = 1 from rfl)
      have hs2 := sw_ne hc2 (show (2 : Int32).toInt = 2 from rfl)
      have hs3 := sw_ne hc3 (show (3 : Int32).toInt = 3 from rfl)
      have hs4 := sw_ne hc4 (show (4 : Int32).toInt = 4 from rfl)
      have hs5 := sw_ne hc5 (show (5 : Int32).toInt = 5 from rfl)
      have hs6 := sw_ne hc6 (show (6 : Int32).toInt = 6 from rfl)
      have hs7 := sw_ne hc7 (show (7 : Int32).toInt = 7 from rfl)
      have hs8 := sw_ne hc8 (show (8 : Int32).toInt = 8 from rfl)
      have hs9 := sw_ne hc9 (show (9 : Int32).toInt = 9 from rfl)
      have hs10 := sw_ne hc10 (show (10 : Int32).toInt = 10 from rfl)
      have hs11 := sw_ne hc11 (show (11 : Int32).toInt = 11 from rfl)
      have hs12 := sw_ne hc12 (show (12 : Int32).toInt = 12 from rfl)
      have hs13 := sw_ne hc13 (show (13 : Int32).toInt = 13 from rfl)
      have hs14 := sw_ne hc14 (show (14 : Int32).toInt = 14 from rfl)
      have hs15 := sw_ne hc15 (show (15 : Int32).toInt = 15 from rfl)
      have hs16 := sw_ne hc16 (show (16 : Int32).toInt = 16 from rfl)
      have hs17 := sw_ne hc17 (show (17 : Int32).toInt = 17 from rfl)
      have hs18 := sw_ne hc18 (show (18 : Int32).toInt = 18 from rfl)
      have hs19 := sw_ne hc19 (show (19 : Int32).toInt = 19 from rfl)
      have hs20 := sw_ne hc20 (show (20 : Int32).toInt = 20 from rfl)
      have hs21 := sw_ne hc21 (show (21 : Int32).toInt = 21 from rfl)
      have hs22 := sw_ne hc22 (show (22 : Int32).toInt = 22 from rfl)
      have hs23 := sw_ne hc23 (show (23 : Int32).toInt = 23 from rfl)
      have hs24 := sw_ne hc24 (show (24 : Int32).toInt = 24 from rfl)
      have hs25 := sw_ne hc25 (show (25 : Int32).toInt = 25 from rfl)
      have hs26 := sw_ne hc26 (show (26 : Int32).toInt = 26 from rfl)
      have hs27 := sw_ne hc27 (show (27 : Int32).toInt = 27 from rfl)
      have hs28 := sw_ne hc28 (show (28 : Int32).toInt = 28 from rfl)
      have hs29 := sw_ne hc29 (show (29 : Int32).toInt = 29 from rfl)
      have hs30 := sw_ne hc30 (show (30 : Int32).toInt = 30 from rfl)
      have hs31 := sw_ne hc31 (show (31 : Int32).toInt = 31 from rfl)
      have hs32 := sw_ne hc32 (show (32 : Int32).toInt = 32 from rfl)
      have hs33 := sw_ne hc33 (show (33 : Int32).toInt = 33 from rfl)
      have hs34 := sw_ne hc34 (show (34 : Int32).toInt = 34 from rfl)
      have hs35 := sw_ne hc35 (show (35 : Int32).toInt = 35 from rfl)
      have hs36 := sw_ne hc36 (show (36 : Int32).toInt = 36 from rfl)
      have hs37 := sw_ne hc37 (show (37 : Int32).toInt = 37 from rfl)
      refine lv_tableOut (tgt := 1336) hx hb dL_law_33 (by omega) (by decide) ?_
      exact NEXT yn ym yk yl yt yd yu ye yv yo y0 y1 yc yh xs xm xi xw xh xl xr xe xn xo xp xu xd H locs ls hI hH hl
