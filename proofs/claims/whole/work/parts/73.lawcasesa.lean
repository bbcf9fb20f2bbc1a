/-! ===== the cases of the law ===== -/
theorem law_ix {N j : Nat} (hN : N ≤ 3072) (hj : j + 6 ≤ N) (k : Nat) (hk : k ≤ 5) : vp_in (nI j + nI k) N := by
  rw [nI_add]
  exact vp_in_nI (by omega) (by omega)
theorem law_cmp (x : Int64) : lg_cmp x x = 0 := by
  simp [lg_cmp]
set_option maxHeartbeats 4000000 in
set_option maxRecDepth 100000 in
theorem law_c0 {p : Program} {l : Launch} {e : Env} {s : State} {m : MethodId} {below : List Frame} {meth : Method} {c : Code} {D : va_G} {cI cJ cQ : ClassId} {aK aV : Nat → Nat} {ad bd : Nat → Nat} {b N j : Nat} {xv : Nat → Int32} (F : CallFix p m c cL_law 4 s #[Value.ref b] wsL_law RL) (hK : KK D cI cJ cQ s) (hT : TXF aK aV (fun q : Nat => s.heap.size ≤ q) s s.heap) (hX : va_X b N xv s s.heap) (hbl : b < s.heap.size) (hN : N ≤ 3072) (hj : j + 6 ≤ N) (yn : LandT) (ym : LandT) (yk : LandT) (yl : (Nat → Int32)) (yt : Int32) (yd : Int32) (yu : (Nat → Int32)) (ye : (Nat → Int32)) (yv : (Nat → Int32)) (yo : (Nat → Int64)) (y0 : (Nat → Int32)) (y1 : (Nat → Int32)) (yc : Int32) (yh : Int32) (xs : (Nat → Int32)) (xm : (Nat → Int32)) (xi : (Nat → Int32)) (xw : (Nat → Int32)) (xh : Int32) (xl : (Nat → Int32)) (xr : (Nat → Int32)) (xe : (Nat → Int32)) (xn : Int32) (xo : Int32) (xp : Int32) (xu : (Nat → Int32)) (xd : Int32) {H : Heap} {locs : List Loc} {ls : Array Slot} (hI : Inv yn yk yl yt yu ye yc yh xs xi xh xl xr xe xn xo) (hH : Hs D (fun q : Nat => s.heap.size ≤ q) s.heap (wMn cI cJ cQ ad yn ym yk yl yt yd yu ye yv yo y0 y1 yc yh ++ wMd cI bd xs xm xi xw xh xl xr xe xn xo xp xu xd) H locs) (hl : lv_has ls 4 [(0, .ref b), (1, .ref (ad 0)), (2, .ref (bd 0)), (3, .int (nI j))]) (NEXT : ∀ (yn : LandT) (ym : LandT) (yk : LandT) (yl : (Nat → Int32)) (yt : Int32) (yd : Int32) (yu : (Nat → Int32)) (ye : (Nat → Int32)) (yv : (Nat → Int32)) (yo : (Nat → Int64)) (y0 : (Nat → Int32)) (y1 : (Nat → Int32)) (yc : Int32) (yh : Int32) (xs : (Nat → Int32)) (xm : (Nat → Int32)) (xi : (Nat → Int32)) (xw : (Nat → Int32)) (xh : Int32) (xl : (Nat → Int32)) (xr : (Nat → Int32)) (xe : (Nat → Int32)) (xn : Int32) (xo : Int32) (xp : Int32) (xu : (Nat → Int32)) (xd : Int32) (H : Heap) (locs : List Loc) (ls : Array Slot), Inv yn yk yl yt yu ye yc yh xs xi xh xl xr xe xn xo → Hs D (fun q : Nat => s.heap.size ≤ q) s.heap (wMn cI cJ cQ ad yn ym yk yl yt yd yu ye yv yo y0 y1 yc yh ++ wMd cI bd xs xm xi xw xh xl xr xe xn xo xp xu xd) H locs → lv_has ls 4 [(0, .ref b), (1, .ref (ad 0)), (2, .ref (bd 0)), (3, .int (nI j))] → W p l e room_1 s m #[Value.ref b] below meth c H locs 44 733 (lw_Z below #[Value.ref b] s) (F0 m 1336 ls [])) : W p l e room_1 s m #[Value.ref b] below meth c H locs 44 733 (lw_Z below #[Value.ref b] s) (F0 m 200 ls []) := by
  obtain ⟨hx, hb, hml, hown, hts⟩ := id F
  have hA : ∀ q : Nat, s.heap.size ≤ q → (fun q : Nat => s.heap.size ≤ q) q := fun _ h => h
  have hbA : ¬ (fun q : Nat => s.heap.size ≤ q) b := Nat.not_le.mpr hbl
  obtain ⟨ra, rb, h1, h2, hr, hI⟩ := st_letter yn ym yk yl yt yd yu ye yv yo y0 y1 yc yh xs xm xi xw xh xl xr xe xn xo xp xu xd (xv (Int32.toNatClampNeg (nI j + 1))) hI
  refine lv_aload_n hx hb dL_law_200 rfl (lv_at hl 1 rfl) ?_
  refine lv_aload_n hx hb dL_law_201 rfl (lv_at hl 0 rfl) ?_
  refine lv_iload_n hx hb dL_law_202 rfl (lv_at hl 3 rfl) ?_
  refine lv_iconst (v := 1) hx hb dL_law_203 (by decide) ?_
  refine lv_iadd hx hb dL_law_204 ?_
  refine va_sld hx hb hX hbl hbA hH.2.2 (law_ix hN hj 1 (by decide)) dL_law_205 ?_
  refine k_ViL F hK hH hA hl.1 ⟨(Nat.le_of_ble_eq_true rfl), (Nat.le_of_ble_eq_true rfl)⟩ [.int (xv (Int32.toNatClampNeg (nI j + 1)))] [] (ctX3_letter ad yn ym yk yl yt yd yu ye yv yo y0 y1 yc yh (xv (Int32.toNatClampNeg (nI j + 1))) h1) (cwV 1 F.2.2.2.2 gL_law_X3_letter rfl rfl rfl hdVX3_letter ⟨(Nat.le_of_ble_eq_true rfl), (Nat.le_of_ble_eq_true rfl)⟩) dL_law_206 rfl rfl rfl rfl rfl (Nat.le_of_ble_eq_true rfl) rfl (fun H locs hH => ?_)
  have hH : Hs D (fun q : Nat => s.heap.size ≤ q) s.heap (wMn cI cJ cQ ad yn ym yk ra.2.1 ra.2.2.1 yd yu ra.2.2.2 yv yo y0 y1 yc yh ++ wMd cI bd xs xm xi xw xh xl xr xe xn xo xp xu xd) H locs := hH
  refine lv_aload_n hx hb dL_law_209 rfl (lv_at hl 2 rfl) ?_
  refine lv_aload_n hx hb dL_law_210 rfl (lv_at hl 0 rfl) ?_
  refine lv_iload_n hx hb dL_law_211 rfl (lv_at hl 3 rfl) ?_
  refine lv_iconst (v := 1) hx hb dL_law_212 (by decide) ?_
  refine lv_iadd hx hb dL_law_213 ?_
  refine va_sld hx hb hX hbl hbA hH.2.2 (law_ix hN hj 1 (by decide)) dL_law_214 ?_
  refine k_ViR F hK hH hA hl.1 ⟨(Nat.le_of_ble_eq_true rfl), (Nat.le_of_ble_eq_true rfl)⟩ [.int (xv (Int32.toNatClampNeg (nI j + 1)))] [.int ra.1] (ctX4_letter bd xs xm xi xw xh xl xr xe xn xo xp xu xd (xv (Int32.toNatClampNeg (nI j + 1))) h2) (cwV 1 F.2.2.2.2 gL_law_X4_letter rfl rfl rfl hdVX4_letter ⟨(Nat.le_of_ble_eq_true rfl), (Nat.le_of_ble_eq_true rfl)⟩) dL_law_215 rfl rfl rfl rfl rfl (Nat.le_of_ble_eq_true rfl) rfl (fun H locs hH => ?_)
  have hH : Hs D (fun q : Nat => s.heap.size ≤ q) s.heap (wMn cI cJ cQ ad yn ym yk ra.2.1 ra.2.2.1 yd yu ra.2.2.2 yv yo y0 y1 yc yh ++ wMd cI bd xs xm xi xw xh rb.2.1 xr rb.2.2.1 rb.2.2.2 xo xp xu xd) H locs := hH
  refine lv_icmp_eq (tgt := 1336) hx hb dL_law_218 (by decide) (fun _ => ?_) (fun hc => ?_)
  · exact NEXT _ _ _ _ _ _ _ _ _ _ _ _ _ _ _ _ _ _ _ _ _ _ _ _ _ _ _ H locs ls hI hH hl
  · exact absurd hr hc

set_option maxHeartbeats 4000000 in
set_option maxRecDepth 100000 in
theorem law_c1 {p : Program} {l : Launch} {e : Env} {s : State} {m : MethodId} {below : List Frame} {meth : Method} {c : Code} {D : va_G} {cI cJ cQ : ClassId} {aK aV : Nat → Nat} {ad bd : Nat → Nat} {b N j : Nat} {xv : Nat → Int32} (F : CallFix p m c cL_law 4 s #[Value.ref b] wsL_law RL) (hK : KK D cI cJ cQ s) (hT : TXF aK aV (fun q : Nat => s.heap.size ≤ q) s s.heap) (hX : va_X b N xv s s.heap) (hbl : b < s.heap.size) (hN : N ≤ 3072) (hj : j + 6 ≤ N) (yn : LandT) (ym : LandT) (yk : LandT) (yl : (Nat → Int32)) (yt : Int32) (yd : Int32) (yu : (Nat → Int32)) (ye : (Nat → Int32)) (yv : (Nat → Int32)) (yo : (Nat → Int64)) (y0 : (Nat → Int32)) (y1 : (Nat → Int32)) (yc : Int32) (yh : Int32) (xs : (Nat → Int32)) (xm : (Nat → Int32)) (xi : (Nat → Int32)) (xw : (Nat → Int32)) (xh : Int32) (xl : (Nat → Int32)) (xr : (Nat → Int32)) (xe : (Nat → Int32)) (xn : Int32) (xo : Int32) (xp : Int32) (xu : (Nat → Int32)) (xd : Int32) {H : Heap} {locs : List Loc} {ls : Array Slot} (hI : Inv yn yk yl yt yu ye yc yh xs xi xh xl xr xe xn xo) (hH : Hs D (fun q : Nat => s.heap.size ≤ q) s.heap (wMn cI cJ cQ ad yn ym yk yl yt yd yu ye yv yo y0 y1 yc yh ++ wMd cI bd xs xm xi xw xh xl xr xe xn xo xp xu xd) H locs) (hl : lv_has ls 4 [(0, .ref b), (1, .ref (ad 0)), (2, .ref (bd 0)), (3, .int (nI j))]) (NEXT : ∀ (yn : LandT) (ym : LandT) (yk : LandT) (yl : (Nat → Int32)) (yt : Int32) (yd : Int32) (yu : (Nat → Int32)) (ye : (Nat → Int32)) (yv : (Nat → Int32)) (yo : (Nat → Int64)) (y0 : (Nat → Int32)) (y1 : (Nat → Int32)) (yc : Int32) (yh : Int32) (xs : (Nat → Int32)) (xm : (Nat → Int32)) (xi : (Nat → Int32)) (xw : (Nat → Int32)) (xh : Int32) (xl : (Nat → Int32)) (xr : (Nat → Int32)) (xe : (Nat → Int32)) (xn : Int32) (xo : Int32) (xp : Int32) (xu : (Nat → Int32)) (xd : Int32) (H : Heap) (locs : List Loc) (ls : Array Slot), Inv yn yk yl yt yu ye yc yh xs xi xh xl xr xe xn xo → Hs D (fun q : Nat => s.heap.size ≤ q) s.heap (wMn cI cJ cQ ad yn ym yk yl yt yd yu ye yv yo y0 y1 yc yh ++ wMd cI bd xs xm xi xw xh xl xr xe xn xo xp xu xd) H locs → lv_has ls 4 [(0, .ref b), (1, .ref (ad 0)), (2, .ref (bd 0)), (3, .int (nI j))] → W p l e room_1 s m #[Value.ref b] below meth c H locs 44 733 (lw_Z below #[Value.ref b] s) (F0 m 1336 ls [])) : W p l e room_1 s m #[Value.ref b] below meth c H locs 44 733 (lw_Z below #[Value.ref b] s) (F0 m 223 ls []) := by
  obtain ⟨hx, hb, hml, hown, hts⟩ := id F
  have hA : ∀ q : Nat, s.heap.size ≤ q → (fun q : Nat => s.heap.size ≤ q) q := fun _ h => h
  have hbA : ¬ (fun q : Nat => s.heap.size ≤ q) b := Nat.not_le.mpr hbl
  obtain ⟨ra, rb, h1, h2, hr, hI⟩ := st_land yn ym yk yl yt yd yu ye yv yo y0 y1 yc yh xs xm xi xw xh xl xr xe xn xo xp xu xd hI
  refine lv_aload_n hx hb dL_law_223 rfl (lv_at hl 1 rfl) ?_
  refine k_ViLT F hK hT hH hA hl.1 ⟨(Nat.le_of_ble_eq_true rfl), (Nat.le_of_ble_eq_true rfl)⟩ [] [] (ctX3_land aK aV ad yn ym yk yl yt yd yu ye yv yo y0 y1 yc yh h1) (cwV 0 F.2.2.2.2 gL_law_X3_land rfl rfl rfl hdVX3_land ⟨(Nat.le_of_ble_eq_true rfl), (Nat.le_of_ble_eq_true rfl)⟩) dL_law_224 rfl rfl rfl rfl rfl (Nat.le_of_ble_eq_true rfl) rfl (fun H locs hH => ?_)
  have hH : Hs D (fun q : Nat => s.heap.size ≤ q) s.heap (wMn cI cJ cQ ad ra.2.1 ra.2.2.1 yk yl ra.2.2.2 yd yu ye yv yo y0 y1 yc yh ++ wMd cI bd xs xm xi xw xh xl xr xe xn xo xp xu xd) H locs := hH
  refine lv_aload_n hx hb dL_law_227 rfl (lv_at hl 2 rfl) ?_
  refine k_ViR F hK hH hA hl.1 ⟨(Nat.le_of_ble_eq_true rfl), (Nat.le_of_ble_eq_true rfl)⟩ [] [.int ra.1] (ctX4_land bd xs xm xi xw xh xl xr xe xn xo xp xu xd h2) (cwV 0 F.2.2.2.2 gL_law_X4_land rfl rfl rfl hdVX4_land ⟨(Nat.le_of_ble_eq_true rfl), (Nat.le_of_ble_eq_true rfl)⟩) dL_law_228 rfl rfl rfl rfl rfl (Nat.le_of_ble_eq_true rfl) rfl (fun H locs hH => ?_)
  have hH : Hs D (fun q : Nat => s.heap.size ≤ q) s.heap (wMn cI cJ cQ ad ra.2.1 ra.2.2.1 yk yl ra.2.2.2 yd yu ye yv yo y0 y1 yc yh ++ wMd cI bd rb.2.1 xm xi rb.2.2.1 xh xl xr xe rb.2.2.2.1 xo rb.2.2.2.2.1 rb.2.2.2.2.2 xd) H locs := hH
  refine lv_icmp_eq (tgt := 1336) hx hb dL_law_231 (by decide) (fun _ => ?_) (fun hc => ?_)
  · exact NEXT _ _ _ _ _ _ _ _ _ _ _ _ _ _ _ _ _ _ _ _ _ _ _ _ _ _ _ H locs ls hI hH hl
  · exact absurd hr hc

set_option maxHeartbeats 4000000 in
set_option maxRecDepth 100000 in
theorem law_c2 {p : Program} {l : Launch} {e : Env} {s : State} {m : MethodId} {below : List Frame} {meth : Method} {c : Code} {D : va_G} {cI cJ cQ : ClassId} {aK aV : Nat → Nat} {ad bd : Nat → Nat} {b N j : Nat} {xv : Nat → Int32} (F : CallFix p m c cL_law 4 s #[Value.ref b] wsL_law RL) (hK : KK D cI cJ cQ s) (hT : TXF aK aV (fun q : Nat => s.heap.size ≤ q) s s.heap) (hX : va_X b N xv s s.heap) (hbl : b < s.heap.size) (hN : N ≤ 3072) (hj : j + 6 ≤ N) (yn : LandT) (ym : LandT) (yk : LandT) (yl : (Nat → Int32)) (yt : Int32) (yd : Int32) (yu : (Nat → Int32)) (ye : (Nat → Int32)) (yv : (Nat → Int32)) (yo : (Nat → Int64)) (y0 : (Nat → Int32)) (y1 : (Nat → Int32)) (yc : Int32) (yh : Int32) (xs : (Nat → Int32)) (xm : (Nat → Int32)) (xi : (Nat → Int32)) (xw : (Nat → Int32)) (xh : Int32) (xl : (Nat → Int32)) (xr : (Nat → Int32)) (xe : (Nat → Int32)) (xn : Int32) (xo : Int32) (xp : Int32) (xu : (Nat → Int32)) (xd : Int32) {H : Heap} {locs : List Loc} {ls : Array Slot} (hI : Inv yn yk yl yt yu ye yc yh xs xi xh xl xr xe xn xo) (hH : Hs D (fun q : Nat => s.heap.size ≤ q) s.heap (wMn cI cJ cQ ad yn ym yk yl yt yd yu ye yv yo y0 y1 yc yh ++ wMd cI bd xs xm xi xw xh xl xr xe xn xo xp xu xd) H locs) (hl : lv_has ls 4 [(0, .ref b), (1, .ref (ad 0)), (2, .ref (bd 0)), (3, .int (nI j))]) (NEXT : ∀ (yn : LandT) (ym : LandT) (yk : LandT) (yl : (Nat → Int32)) (yt : Int32) (yd : Int32) (yu : (Nat → Int32)) (ye : (Nat → Int32)) (yv : (Nat → Int32)) (yo : (Nat → Int64)) (y0 : (Nat → Int32)) (y1 : (Nat → Int32)) (yc : Int32) (yh : Int32) (xs : (Nat → Int32)) (xm : (Nat → Int32)) (xi : (Nat → Int32)) (xw : (Nat → Int32)) (xh : Int32) (xl : (Nat → Int32)) (xr : (Nat → Int32)) (xe : (Nat → Int32)) (xn : Int32) (xo : Int32) (xp : Int32) (xu : (Nat → Int32)) (xd : Int32) (H : Heap) (locs : List Loc) (ls : Array Slot), Inv yn yk yl yt yu ye yc yh xs xi xh xl xr xe xn xo → Hs D (fun q : Nat => s.heap.size ≤ q) s.heap (wMn cI cJ cQ ad yn ym yk yl yt yd yu ye yv yo y0 y1 yc yh ++ wMd cI bd xs xm xi xw xh xl xr xe xn xo xp xu xd) H locs → lv_has ls 4 [(0, .ref b), (1, .ref (ad 0)), (2, .ref (bd 0)), (3, .int (nI j))] → W p l e room_1 s m #[Value.ref b] below meth c H locs 44 733 (lw_Z below #[Value.ref b] s) (F0 m 1336 ls [])) : W p l e room_1 s m #[Value.ref b] below meth c H locs 44 733 (lw_Z below #[Value.ref b] s) (F0 m 236 ls []) := by
  obtain ⟨hx, hb, hml, hown, hts⟩ := id F
  have hA : ∀ q : Nat, s.heap.size ≤ q → (fun q : Nat => s.heap.size ≤ q) q := fun _ h => h
  have hbA : ¬ (fun q : Nat => s.heap.size ≤ q) b := Nat.not_le.mpr hbl
  obtain ⟨ra, rb, h1, h2, hr, hI⟩ := st_thing yn ym yk yl yt yd yu ye yv yo y0 y1 yc yh xs xm xi xw xh xl xr xe xn xo xp xu xd (xv (Int32.toNatClampNeg (nI j + 1))) (xv (Int32.toNatClampNeg (nI j + 2))) hI
  refine lv_aload_n hx hb dL_law_236 rfl (lv_at hl 1 rfl) ?_
  refine lv_aload_n hx hb dL_law_237 rfl (lv_at hl 0 rfl) ?_
  refine lv_iload_n hx hb dL_law_238 rfl (lv_at hl 3 rfl) ?_
  refine lv_iconst (v := 1) hx hb dL_law_239 (by decide) ?_
  refine lv_iadd hx hb dL_law_240 ?_
  refine va_sld hx hb hX hbl hbA hH.2.2 (law_ix hN hj 1 (by decide)) dL_law_241 ?_
  refine lv_aload_n hx hb dL_law_242 rfl (lv_at hl 0 rfl) ?_
  refine lv_iload_n hx hb dL_law_243 rfl (lv_at hl 3 rfl) ?_
  refine lv_iconst (v := 2) hx hb dL_law_244 (by decide) ?_
  refine lv_iadd hx hb dL_law_245 ?_
  refine va_sld hx hb hX hbl hbA hH.2.2 (law_ix hN hj 2 (by decide)) dL_law_246 ?_
  refine k_ViL F hK hH hA hl.1 ⟨(Nat.le_of_ble_eq_true rfl), (Nat.le_of_ble_eq_true rfl)⟩ [.int (xv (Int32.toNatClampNeg (nI j + 1))), .int (xv (Int32.toNatClampNeg (nI j + 2)))] [] (ctX3_thing ad yn ym yk yl yt yd yu ye yv yo y0 y1 yc yh (xv (Int32.toNatClampNeg (nI j + 1))) (xv (Int32.toNatClampNeg (nI j + 2))) h1) (cwV 2 F.2.2.2.2 gL_law_X3_thing rfl rfl rfl hdVX3_thing ⟨(Nat.le_of_ble_eq_true rfl), (Nat.le_of_ble_eq_true rfl)⟩) dL_law_247 rfl rfl rfl rfl rfl (Nat.le_of_ble_eq_true rfl) rfl (fun H locs hH => ?_)
  have hH : Hs D (fun q : Nat => s.heap.size ≤ q) s.heap (wMn cI cJ cQ ad yn ym yk yl yt yd yu ra.2 yv yo y0 y1 yc yh ++ wMd cI bd xs xm xi xw xh xl xr xe xn xo xp xu xd) H locs := hH
  refine lv_aload_n hx hb dL_law_250 rfl (lv_at hl 2 rfl) ?_
  refine lv_aload_n hx hb dL_law_251 rfl (lv_at hl 0 rfl) ?_
  refine lv_iload_n hx hb dL_law_252 rfl (lv_at hl 3 rfl) ?_
  refine lv_iconst (v := 1) hx hb dL_law_253 (by decide) ?_
  refine lv_iadd hx hb dL_law_254 ?_
  refine va_sld hx hb hX hbl hbA hH.2.2 (law_ix hN hj 1 (by decide)) dL_law_255 ?_
  refine lv_aload_n hx hb dL_law_256 rfl (lv_at hl 0 rfl) ?_
  refine lv_iload_n hx hb dL_law_257 rfl (lv_at hl 3 rfl) ?_
  refine lv_iconst (v := 2) hx hb dL_law_258 (by decide) ?_
  refine lv_iadd hx hb dL_law_259 ?_
  refine va_sld hx hb hX hbl hbA hH.2.2 (law_ix hN hj 2 (by decide)) dL_law_260 ?_
  refine k_ViR F hK hH hA hl.1 ⟨(Nat.le_of_ble_eq_true rfl), (Nat.le_of_ble_eq_true rfl)⟩ [.int (xv (Int32.toNatClampNeg (nI j + 1))), .int (xv (Int32.toNatClampNeg (nI j + 2)))] [.int ra.1] (ctX4_thing bd xs xm xi xw xh xl xr xe xn xo xp xu xd (xv (Int32.toNatClampNeg (nI j + 1))) (xv (Int32.toNatClampNeg (nI j + 2))) h2) (cwV 2 F.2.2.2.2 gL_law_X4_thing rfl rfl rfl hdVX4_thing ⟨(Nat.le_of_ble_eq_true rfl), (Nat.le_of_ble_eq_true rfl)⟩) dL_law_261 rfl rfl rfl rfl rfl (Nat.le_of_ble_eq_true rfl) rfl (fun H locs hH => ?_)
  have hH : Hs D (fun q : Nat => s.heap.size ≤ q) s.heap (wMn cI cJ cQ ad yn ym yk yl yt yd yu ra.2 yv yo y0 y1 yc yh ++ wMd cI bd xs xm xi xw xh xl xr rb.2 xn xo xp xu xd) H locs := hH
  refine lv_icmp_eq (tgt := 1336) hx hb dL_law_264 (by decide) (fun _ => ?_) (fun hc => ?_)
  · exact NEXT _ _ _ _ _ _ _ _ _ _ _ _ _ _ _ _ _ _ _ _ _ _ _ _ _ _ _ H locs ls hI hH hl
  · exact absurd hr hc

set_option maxHeartbeats 4000000 in
set_option maxRecDepth 100000 in
theorem law_c3 {p : Program} {l : Launch} {e : Env} {s : State} {m : MethodId} {below : List Frame} {meth : Method} {c : Code} {D : va_G} {cI cJ cQ : ClassId} {aK aV : Nat → Nat} {ad bd : Nat → Nat} {b N j : Nat} {xv : Nat → Int32} (F : CallFix p m c cL_law 4 s #[Value.ref b] wsL_law RL) (hK : KK D cI cJ cQ s) (hT : TXF aK aV (fun q : Nat => s.heap.size ≤ q) s s.heap) (hX : va_X b N xv s s.heap) (hbl : b < s.heap.size) (hN : N ≤ 3072) (hj : j + 6 ≤ N) (yn : LandT) (ym : LandT) (yk : LandT) (yl : (Nat → Int32)) (yt : Int32) (yd : Int32) (yu : (Nat → Int32)) (ye : (Nat → Int32)) (yv : (Nat → Int32)) (yo : (Nat → Int64)) (y0 : (Nat → Int32)) (y1 : (Nat → Int32)) (yc : Int32) (yh : Int32) (xs : (Nat → Int32)) (xm : (Nat → Int32)) (xi : (Nat → Int32)) (xw : (Nat → Int32)) (xh : Int32) (xl : (Nat → Int32)) (xr : (Nat → Int32)) (xe : (Nat → Int32)) (xn : Int32) (xo : Int32) (xp : Int32) (xu : (Nat → Int32)) (xd : Int32) {H : Heap} {locs : List Loc} {ls : Array Slot} (hI : Inv yn yk yl yt yu ye yc yh xs xi xh xl xr xe xn xo) (hH : Hs D (fun q : Nat => s.heap.size ≤ q) s.heap (wMn cI cJ cQ ad yn ym yk yl yt yd yu ye yv yo y0 y1 yc yh ++ wMd cI bd xs xm xi xw xh xl xr xe xn xo xp xu xd) H locs) (hl : lv_has ls 4 [(0, .ref b), (1, .ref (ad 0)), (2, .ref (bd 0)), (3, .int (nI j))]) (NEXT : ∀ (yn : LandT) (ym : LandT) (yk : LandT) (yl : (Nat → Int32)) (yt : Int32) (yd : Int32) (yu : (Nat → Int32)) (ye : (Nat → Int32)) (yv : (Nat → Int32)) (yo : (Nat → Int64)) (y0 : (Nat → Int32)) (y1 : (Nat → Int32)) (yc : Int32) (yh : Int32) (xs : (Nat → Int32)) (xm : (Nat → Int32)) (xi : (Nat → Int32)) (xw : (Nat → Int32)) (xh : Int32) (xl : (Nat → Int32)) (xr : (Nat → Int32)) (xe : (Nat → Int32)) (xn : Int32) (xo : Int32) (xp : Int32) (xu : (Nat → Int32)) (xd : Int32) (H : Heap) (locs : List Loc) (ls : Array Slot), Inv yn yk yl yt yu ye yc yh xs xi xh xl xr xe xn xo → Hs D (fun q : Nat => s.heap.size ≤ q) s.heap (wMn cI cJ cQ ad yn ym yk yl yt yd yu ye yv yo y0 y1 yc yh ++ wMd cI bd xs xm xi xw xh xl xr xe xn xo xp xu xd) H locs → lv_has ls 4 [(0, .ref b), (1, .ref (ad 0)), (2, .ref (bd 0)), (3, .int (nI j))] → W p l e room_1 s m #[Value.ref b] below meth c H locs 44 733 (lw_Z below #[Value.ref b] s) (F0 m 1336 ls [])) : W p l e room_1 s m #[Value.ref b] below meth c H locs 44 733 (lw_Z below #[Value.ref b] s) (F0 m 269 ls []) := by
  obtain ⟨hx, hb, hml, hown, hts⟩ := id F
  have hA : ∀ q : Nat, s.heap.size ≤ q → (fun q : Nat => s.heap.size ≤ q) q := fun _ h => h
  have hbA : ¬ (fun q : Nat => s.heap.size ≤ q) b := Nat.not_le.mpr hbl
  obtain ⟨ra, rb, h1, h2, hr, hI⟩ := st_height yn ym yk yl yt yd yu ye yv yo y0 y1 yc yh xs xm xi xw xh xl xr xe xn xo xp xu xd (xv (Int32.toNatClampNeg (nI j + 1))) hI
  refine lv_aload_n hx hb dL_law_269 rfl (lv_at hl 1 rfl) ?_
  refine lv_aload_n hx hb dL_law_270 rfl (lv_at hl 0 rfl) ?_
  refine lv_iload_n hx hb dL_law_271 rfl (lv_at hl 3 rfl) ?_
  refine lv_iconst (v := 1) hx hb dL_law_272 (by decide) ?_
  refine lv_iadd hx hb dL_law_273 ?_
  refine va_sld hx hb hX hbl hbA hH.2.2 (law_ix hN hj 1 (by decide)) dL_law_274 ?_
  refine k_ViL F hK hH hA hl.1 ⟨(Nat.le_of_ble_eq_true rfl), (Nat.le_of_ble_eq_true rfl)⟩ [.int (xv (Int32.toNatClampNeg (nI j + 1)))] [] (ctX3_height ad yn ym yk yl yt yd yu ye yv yo y0 y1 yc yh (xv (Int32.toNatClampNeg (nI j + 1))) h1) (cwV 1 F.2.2.2.2 gL_law_X3_height rfl rfl rfl hdVX3_height ⟨(Nat.le_of_ble_eq_true rfl), (Nat.le_of_ble_eq_true rfl)⟩) dL_law_275 rfl rfl rfl rfl rfl (Nat.le_of_ble_eq_true rfl) rfl (fun H locs hH => ?_)
  have hH : Hs D (fun q : Nat => s.heap.size ≤ q) s.heap (wMn cI cJ cQ ad yn ym yk yl yt yd yu ra.2 yv yo y0 y1 yc yh ++ wMd cI bd xs xm xi xw xh xl xr xe xn xo xp xu xd) H locs := hH
  refine lv_aload_n hx hb dL_law_278 rfl (lv_at hl 2 rfl) ?_
  refine lv_aload_n hx hb dL_law_279 rfl (lv_at hl 0 rfl) ?_
  refine lv_iload_n hx hb dL_law_280 rfl (lv_at hl 3 rfl) ?_
  refine lv_iconst (v := 1) hx hb dL_law_281 (by decide) ?_
  refine lv_iadd hx hb dL_law_282 ?_
  refine va_sld hx hb hX hbl hbA hH.2.2 (law_ix hN hj 1 (by decide)) dL_law_283 ?_
  refine k_ViR F hK hH hA hl.1 ⟨(Nat.le_of_ble_eq_true rfl), (Nat.le_of_ble_eq_true rfl)⟩ [.int (xv (Int32.toNatClampNeg (nI j + 1)))] [.int ra.1] (ctX4_height bd xs xm xi xw xh xl xr xe xn xo xp xu xd (xv (Int32.toNatClampNeg (nI j + 1))) h2) (cwV 1 F.2.2.2.2 gL_law_X4_height rfl rfl rfl hdVX4_height ⟨(Nat.le_of_ble_eq_true rfl), (Nat.le_of_ble_eq_true rfl)⟩) dL_law_284 rfl rfl rfl rfl rfl (Nat.le_of_ble_eq_true rfl) rfl (fun H locs hH => ?_)
  have hH : Hs D (fun q : Nat => s.heap.size ≤ q) s.heap (wMn cI cJ cQ ad yn ym yk yl yt yd yu ra.2 yv yo y0 y1 yc yh ++ wMd cI bd xs xm xi xw xh xl xr rb.2 xn xo xp xu xd) H locs := hH
  refine lv_icmp_eq (tgt := 1336) hx hb dL_law_287 (by decide) (fun _ => ?_) (fun hc => ?_)
  · exact NEXT _ _ _ _ _ _ _ _ _ _ _ _ _ _ _ _ _ _ _ _ _ _ _ _ _ _ _ H locs ls hI hH hl
  · exact absurd hr hc

set_option maxHeartbeats 4000000 in
set_option maxRecDepth 100000 in
theorem law_c4 {p : Program} {l : Launch} {e : Env} {s : State} {m : MethodId} {below : List Frame} {meth : Method} {c : Code} {D : va_G} {cI cJ cQ : ClassId} {aK aV : Nat → Nat} {ad bd : Nat → Nat} {b N j : Nat} {xv : Nat → Int32} (F : CallFix p m c cL_law 4 s #[Value.ref b] wsL_law RL) (hK : KK D cI cJ cQ s) (hT : TXF aK aV (fun q : Nat => s.heap.size ≤ q) s s.heap) (hX : va_X b N xv s s.heap) (hbl : b < s.heap.size) (hN : N ≤ 3072) (hj : j + 6 ≤ N) (yn : LandT) (ym : LandT) (yk : LandT) (yl : (Nat → Int32)) (yt : Int32) (yd : Int32) (yu : (Nat → Int32)) (ye : (Nat → Int32)) (yv : (Nat → Int32)) (yo : (Nat → Int64)) (y0 : (Nat → Int32)) (y1 : (Nat → Int32)) (yc : Int32) (yh : Int32) (xs : (Nat → Int32)) (xm : (Nat → Int32)) (xi : (Nat → Int32)) (xw : (Nat → Int32)) (xh : Int32) (xl : (Nat → Int32)) (xr : (Nat → Int32)) (xe : (Nat → Int32)) (xn : Int32) (xo : Int32) (xp : Int32) (xu : (Nat → Int32)) (xd : Int32) {H : Heap} {locs : List Loc} {ls : Array Slot} (hI : Inv yn yk yl yt yu ye yc yh xs xi xh xl xr xe xn xo) (hH : Hs D (fun q : Nat => s.heap.size ≤ q) s.heap (wMn cI cJ cQ ad yn ym yk yl yt yd yu ye yv yo y0 y1 yc yh ++ wMd cI bd xs xm xi xw xh xl xr xe xn xo xp xu xd) H locs) (hl : lv_has ls 4 [(0, .ref b), (1, .ref (ad 0)), (2, .ref (bd 0)), (3, .int (nI j))]) (NEXT : ∀ (yn : LandT) (ym : LandT) (yk : LandT) (yl : (Nat → Int32)) (yt : Int32) (yd : Int32) (yu : (Nat → Int32)) (ye : (Nat → Int32)) (yv : (Nat → Int32)) (yo : (Nat → Int64)) (y0 : (Nat → Int32)) (y1 : (Nat → Int32)) (yc : Int32) (yh : Int32) (xs : (Nat → Int32)) (xm : (Nat → Int32)) (xi : (Nat → Int32)) (xw : (Nat → Int32)) (xh : Int32) (xl : (Nat → Int32)) (xr : (Nat → Int32)) (xe : (Nat → Int32)) (xn : Int32) (xo : Int32) (xp : Int32) (xu : (Nat → Int32)) (xd : Int32) (H : Heap) (locs : List Loc) (ls : Array Slot), Inv yn yk yl yt yu ye yc yh xs xi xh xl xr xe xn xo → Hs D (fun q : Nat => s.heap.size ≤ q) s.heap (wMn cI cJ cQ ad yn ym yk yl yt yd yu ye yv yo y0 y1 yc yh ++ wMd cI bd xs xm xi xw xh xl xr xe xn xo xp xu xd) H locs → lv_has ls 4 [(0, .ref b), (1, .ref (ad 0)), (2, .ref (bd 0)), (3, .int (nI j))] → W p l e room_1 s m #[Value.ref b] below meth c H locs 44 733 (lw_Z below #[Value.ref b] s) (F0 m 1336 ls [])) : W p l e room_1 s m #[Value.ref b] below meth c H locs 44 733 (lw_Z below #[Value.ref b] s) (F0 m 292 ls []) := by
  obtain ⟨hx, hb, hml, hown, hts⟩ := id F
  have hA : ∀ q : Nat, s.heap.size ≤ q → (fun q : Nat => s.heap.size ≤ q) q := fun _ h => h
  have hbA : ¬ (fun q : Nat => s.heap.size ≤ q) b := Nat.not_le.mpr hbl
  obtain ⟨ra, rb, h1, h2, hr, hI⟩ := st_code yn ym yk yl yt yd yu ye yv yo y0 y1 yc yh xs xm xi xw xh xl xr xe xn xo xp xu xd (xv (Int32.toNatClampNeg (nI j + 1))) (xv (Int32.toNatClampNeg (nI j + 2))) hI
  refine lv_aload_n hx hb dL_law_292 rfl (lv_at hl 1 rfl) ?_
  refine lv_aload_n hx hb dL_law_293 rfl (lv_at hl 0 rfl) ?_
  refine lv_iload_n hx hb dL_law_294 rfl (lv_at hl 3 rfl) ?_
  refine lv_iconst (v := 1) hx hb dL_law_295 (by decide) ?_
  refine lv_iadd hx hb dL_law_296 ?_
  refine va_sld hx hb hX hbl hbA hH.2.2 (law_ix hN hj 1 (by decide)) dL_law_297 ?_
  refine lv_aload_n hx hb dL_law_298 rfl (lv_at hl 0 rfl) ?_
  refine lv_iload_n hx hb dL_law_299 rfl (lv_at hl 3 rfl) ?_
  refine lv_iconst (v := 2) hx hb dL_law_300 (by decide) ?_
  refine lv_iadd hx hb dL_law_301 ?_
  refine va_sld hx hb hX hbl hbA hH.2.2 (law_ix hN hj 2 (by decide)) dL_law_302 ?_
  refine k_ViL F hK hH hA hl.1 ⟨(Nat.le_of_ble_eq_true rfl), (Nat.le_of_ble_eq_true rfl)⟩ [.int (xv (Int32.toNatClampNeg (nI j + 1))), .int (xv (Int32.toNatClampNeg (nI j + 2)))] [] (ctX3_code ad yn ym yk yl yt yd yu ye yv yo y0 y1 yc yh (xv (Int32.toNatClampNeg (nI j + 1))) (xv (Int32.toNatClampNeg (nI j + 2))) h1) (cwV 2 F.2.2.2.2 gL_law_X3_code rfl rfl rfl hdVX3_code ⟨(Nat.le_of_ble_eq_true rfl), (Nat.le_of_ble_eq_true rfl)⟩) dL_law_303 rfl rfl rfl rfl rfl (Nat.le_of_ble_eq_true rfl) rfl (fun H locs hH => ?_)
  have hH : Hs D (fun q : Nat => s.heap.size ≤ q) s.heap (wMn cI cJ cQ ad yn ym yk yl yt yd yu ra.2 yv yo y0 y1 yc yh ++ wMd cI bd xs xm xi xw xh xl xr xe xn xo xp xu xd) H locs := hH
  refine lv_aload_n hx hb dL_law_306 rfl (lv_at hl 2 rfl) ?_
  refine lv_aload_n hx hb dL_law_307 rfl (lv_at hl 0 rfl) ?_
  refine lv_iload_n hx hb dL_law_308 rfl (lv_at hl 3 rfl) ?_
  refine lv_iconst (v := 1) hx hb dL_law_309 (by decide) ?_
  refine lv_iadd hx hb dL_law_310 ?_
  refine va_sld hx hb hX hbl hbA hH.2.2 (law_ix hN hj 1 (by decide)) dL_law_311 ?_
  refine lv_aload_n hx hb dL_law_312 rfl (lv_at hl 0 rfl) ?_
  refine lv_iload_n hx hb dL_law_313 rfl (lv_at hl 3 rfl) ?_
  refine lv_iconst (v := 2) hx hb dL_law_314 (by decide) ?_
  refine lv_iadd hx hb dL_law_315 ?_
  refine va_sld hx hb hX hbl hbA hH.2.2 (law_ix hN hj 2 (by decide)) dL_law_316 ?_
  refine k_ViR F hK hH hA hl.1 ⟨(Nat.le_of_ble_eq_true rfl), (Nat.le_of_ble_eq_true rfl)⟩ [.int (xv (Int32.toNatClampNeg (nI j + 1))), .int (xv (Int32.toNatClampNeg (nI j + 2)))] [.int ra.1] (ctX4_code bd xs xm xi xw xh xl xr xe xn xo xp xu xd (xv (Int32.toNatClampNeg (nI j + 1))) (xv (Int32.toNatClampNeg (nI j + 2))) h2) (cwV 2 F.2.2.2.2 gL_law_X4_code rfl rfl rfl hdVX4_code ⟨(Nat.le_of_ble_eq_true rfl), (Nat.le_of_ble_eq_true rfl)⟩) dL_law_317 rfl rfl rfl rfl rfl (Nat.le_of_ble_eq_true rfl) rfl (fun H locs hH => ?_)
  have hH : Hs D (fun q : Nat => s.heap.size ≤ q) s.heap (wMn cI cJ cQ ad yn ym yk yl yt yd yu ra.2 yv yo y0 y1 yc yh ++ wMd cI bd xs xm xi xw xh xl xr rb.2 xn xo xp xu xd) H locs := hH
  refine lv_icmp_eq (tgt := 1336) hx hb dL_law_320 (by decide) (fun _ => ?_) (fun hc => ?_)
  · exact NEXT _ _ _ _ _ _ _ _ _ _ _ _ _ _ _ _ _ _ _ _ _ _ _ _ _ _ _ H locs ls hI hH hl
  · exact absurd hr hc

set_option maxHeartbeats 4000000 in
set_option maxRecDepth 100000 in
theorem law_c5 {p : Program} {l : Launch} {e : Env} {s : State} {m : MethodId} {below : List Frame} {meth : Method} {c : Code} {D : va_G} {cI cJ cQ : ClassId} {aK aV : Nat → Nat} {ad bd : Nat → Nat} {b N j : Nat} {xv : Nat → Int32} (F : CallFix p m c cL_law 4 s #[Value.ref b] wsL_law RL) (hK : KK D cI cJ cQ s) (hT : TXF aK aV (fun q : Nat => s.heap.size ≤ q) s s.heap) (hX : va_X b N xv s s.heap) (hbl : b < s.heap.size) (hN : N ≤ 3072) (hj : j + 6 ≤ N) (yn : LandT) (ym : LandT) (yk : LandT) (yl : (Nat → Int32)) (yt : Int32) (yd : Int32) (yu : (Nat → Int32)) (ye : (Nat → Int32)) (yv : (Nat → Int32)) (yo : (Nat → Int64)) (y0 : (Nat → Int32)) (y1 : (Nat → Int32)) (yc : Int32) (yh : Int32) (xs : (Nat → Int32)) (xm : (Nat → Int32)) (xi : (Nat → Int32)) (xw : (Nat → Int32)) (xh : Int32) (xl : (Nat → Int32)) (xr : (Nat → Int32)) (xe : (Nat → Int32)) (xn : Int32) (xo : Int32) (xp : Int32) (xu : (Nat → Int32)) (xd : Int32) {H : Heap} {locs : List Loc} {ls : Array Slot} (hI : Inv yn yk yl yt yu ye yc yh xs xi xh xl xr xe xn xo) (hH : Hs D (fun q : Nat => s.heap.size ≤ q) s.heap (wMn cI cJ cQ ad yn ym yk yl yt yd yu ye yv yo y0 y1 yc yh ++ wMd cI bd xs xm xi xw xh xl xr xe xn xo xp xu xd) H locs) (hl : lv_has ls 4 [(0, .ref b), (1, .ref (ad 0)), (2, .ref (bd 0)), (3, .int (nI j))]) (NEXT : ∀ (yn : LandT) (ym : LandT) (yk : LandT) (yl : (Nat → Int32)) (yt : Int32) (yd : Int32) (yu : (Nat → Int32)) (ye : (Nat → Int32)) (yv : (Nat → Int32)) (yo : (Nat → Int64)) (y0 : (Nat → Int32)) (y1 : (Nat → Int32)) (yc : Int32) (yh : Int32) (xs : (Nat → Int32)) (xm : (Nat → Int32)) (xi : (Nat → Int32)) (xw : (Nat → Int32)) (xh : Int32) (xl : (Nat → Int32)) (xr : (Nat → Int32)) (xe : (Nat → Int32)) (xn : Int32) (xo : Int32) (xp : Int32) (xu : (Nat → Int32)) (xd : Int32) (H : Heap) (locs : List Loc) (ls : Array Slot), Inv yn yk yl yt yu ye yc yh xs xi xh xl xr xe xn xo → Hs D (fun q : Nat => s.heap.size ≤ q) s.heap (wMn cI cJ cQ ad yn ym yk yl yt yd yu ye yv yo y0 y1 yc yh ++ wMd cI bd xs xm xi xw xh xl xr xe xn xo xp xu xd) H locs → lv_has ls 4 [(0, .ref b), (1, .ref (ad 0)), (2, .ref (bd 0)), (3, .int (nI j))] → W p l e room_1 s m #[Value.ref b] below meth c H locs 44 733 (lw_Z below #[Value.ref b] s) (F0 m 1336 ls [])) : W p l e room_1 s m #[Value.ref b] below meth c H locs 44 733 (lw_Z below #[Value.ref b] s) (F0 m 325 ls []) := by
  obtain ⟨hx, hb, hml, hown, hts⟩ := id F
  have hA : ∀ q : Nat, s.heap.size ≤ q → (fun q : Nat => s.heap.size ≤ q) q := fun _ h => h
  have hbA : ¬ (fun q : Nat => s.heap.size ≤ q) b := Nat.not_le.mpr hbl
  obtain ⟨ra, rb, h1, h2, hr, hI⟩ := st_heaps yn ym yk yl yt yd yu ye yv yo y0 y1 yc yh xs xm xi xw xh xl xr xe xn xo xp xu xd (xv (Int32.toNatClampNeg (nI j + 1))) (xv (Int32.toNatClampNeg (nI j + 2))) hI
  refine lv_aload_n hx hb dL_law_325 rfl (lv_at hl 1 rfl) ?_
  refine lv_aload_n hx hb dL_law_326 rfl (lv_at hl 0 rfl) ?_
  refine lv_iload_n hx hb dL_law_327 rfl (lv_at hl 3 rfl) ?_
  refine lv_iconst (v := 1) hx hb dL_law_328 (by decide) ?_
  refine lv_iadd hx hb dL_law_329 ?_
  refine va_sld hx hb hX hbl hbA hH.2.2 (law_ix hN hj 1 (by decide)) dL_law_330 ?_
  refine lv_aload_n hx hb dL_law_331 rfl (lv_at hl 0 rfl) ?_
  refine lv_iload_n hx hb dL_law_332 rfl (lv_at hl 3 rfl) ?_
  refine lv_iconst (v := 2) hx hb dL_law_333 (by decide) ?_
  refine lv_iadd hx hb dL_law_334 ?_
  refine va_sld hx hb hX hbl hbA hH.2.2 (law_ix hN hj 2 (by decide)) dL_law_335 ?_
  refine k_ViL F hK hH hA hl.1 ⟨(Nat.le_of_ble_eq_true rfl), (Nat.le_of_ble_eq_true rfl)⟩ [.int (xv (Int32.toNatClampNeg (nI j + 1))), .int (xv (Int32.toNatClampNeg (nI j + 2)))] [] (ctX3_heaps ad yn ym yk yl yt yd yu ye yv yo y0 y1 yc yh (xv (Int32.toNatClampNeg (nI j + 1))) (xv (Int32.toNatClampNeg (nI j + 2))) h1) (cwV 2 F.2.2.2.2 gL_law_X3_heaps rfl rfl rfl hdVX3_heaps ⟨(Nat.le_of_ble_eq_true rfl), (Nat.le_of_ble_eq_true rfl)⟩) dL_law_336 rfl rfl rfl rfl rfl (Nat.le_of_ble_eq_true rfl) rfl (fun H locs hH => ?_)
  have hH : Hs D (fun q : Nat => s.heap.size ≤ q) s.heap (wMn cI cJ cQ ad ra.2.1 ym yk yl yt yd yu ra.2.2 yv yo y0 y1 yc yh ++ wMd cI bd xs xm xi xw xh xl xr xe xn xo xp xu xd) H locs := hH
  refine lv_aload_n hx hb dL_law_339 rfl (lv_at hl 2 rfl) ?_
  refine lv_aload_n hx hb dL_law_340 rfl (lv_at hl 0 rfl) ?_
  refine lv_iload_n hx hb dL_law_341 rfl (lv_at hl 3 rfl) ?_
  refine lv_iconst (v := 1) hx hb dL_law_342 (by decide) ?_
  refine lv_iadd hx hb dL_law_343 ?_
  refine va_sld hx hb hX hbl hbA hH.2.2 (law_ix hN hj 1 (by decide)) dL_law_344 ?_
  refine lv_aload_n hx hb dL_law_345 rfl (lv_at hl 0 rfl) ?_
  refine lv_iload_n hx hb dL_law_346 rfl (lv_at hl 3 rfl) ?_
  refine lv_iconst (v := 2) hx hb dL_law_347 (by decide) ?_
  refine lv_iadd hx hb dL_law_348 ?_
  refine va_sld hx hb hX hbl hbA hH.2.2 (law_ix hN hj 2 (by decide)) dL_law_349 ?_
  refine k_ViR F hK hH hA hl.1 ⟨(Nat.le_of_ble_eq_true rfl), (Nat.le_of_ble_eq_true rfl)⟩ [.int (xv (Int32.toNatClampNeg (nI j + 1))), .int (xv (Int32.toNatClampNeg (nI j + 2)))] [.int ra.1] (ctX4_heaps bd xs xm xi xw xh xl xr xe xn xo xp xu xd (xv (Int32.toNatClampNeg (nI j + 1))) (xv (Int32.toNatClampNeg (nI j + 2))) h2) (cwV 2 F.2.2.2.2 gL_law_X4_heaps rfl rfl rfl hdVX4_heaps ⟨(Nat.le_of_ble_eq_true rfl), (Nat.le_of_ble_eq_true rfl)⟩) dL_law_350 rfl rfl rfl rfl rfl (Nat.le_of_ble_eq_true rfl) rfl (fun H locs hH => ?_)
  have hH : Hs D (fun q : Nat => s.heap.size ≤ q) s.heap (wMn cI cJ cQ ad ra.2.1 ym yk yl yt yd yu ra.2.2 yv yo y0 y1 yc yh ++ wMd cI bd rb.2.1 xm xi xw xh xl xr rb.2.2 xn xo xp xu xd) H locs := hH
  refine lv_icmp_eq (tgt := 1336) hx hb dL_law_353 (by decide) (fun _ => ?_) (fun hc => ?_)
  · exact NEXT _ _ _ _ _ _ _ _ _ _ _ _ _ _ _ _ _ _ _ _ _ _ _ _ _ _ _ H locs ls hI hH hl
  · exact absurd hr hc

set_option maxHeartbeats 4000000 in
set_option maxRecDepth 100000 in
theorem law_c6 {p : Program} {l : Launch} {e : Env} {s : State} {m : MethodId} {below : List Frame} {meth : Method} {c : Code} {D : va_G} {cI cJ cQ : ClassId} {aK aV : Nat → Nat} {ad bd : Nat → Nat} {b N j : Nat} {xv : Nat → Int32} (F : CallFix p m c cL_law 4 s #[Value.ref b] wsL_law RL) (hK : KK D cI cJ cQ s) (hT : TXF aK aV (fun q : Nat => s.heap.size ≤ q) s s.heap) (hX : va_X b N xv s s.heap) (hbl : b < s.heap.size) (hN : N ≤ 3072) (hj : j + 6 ≤ N) (yn : LandT) (ym : LandT) (yk : LandT) (yl : (Nat → Int32)) (yt : Int32) (yd : Int32) (yu : (Nat → Int32)) (ye : (Nat → Int32)) (yv : (Nat → Int32)) (yo : (Nat → Int64)) (y0 : (Nat → Int32)) (y1 : (Nat → Int32)) (yc : Int32) (yh : Int32) (xs : (Nat → Int32)) (xm : (Nat → Int32)) (xi : (Nat → Int32)) (xw : (Nat → Int32)) (xh : Int32) (xl : (Nat → Int32)) (xr : (Nat → Int32)) (xe : (Nat → Int32)) (xn : Int32) (xo : Int32) (xp : Int32) (xu : (Nat → Int32)) (xd : Int32) {H : Heap} {locs : List Loc} {ls : Array Slot} (hI : Inv yn yk yl yt yu ye yc yh xs xi xh xl xr xe xn xo) (hH : Hs D (fun q : Nat => s.heap.size ≤ q) s.heap (wMn cI cJ cQ ad yn ym yk yl yt yd yu ye yv yo y0 y1 yc yh ++ wMd cI bd xs xm xi xw xh xl xr xe xn xo xp xu xd) H locs) (hl : lv_has ls 4 [(0, .ref b), (1, .ref (ad 0)), (2, .ref (bd 0)), (3, .int (nI j))]) (NEXT : ∀ (yn : LandT) (ym : LandT) (yk : LandT) (yl : (Nat → Int32)) (yt : Int32) (yd : Int32) (yu : (Nat → Int32)) (ye : (Nat → Int32)) (yv : (Nat → Int32)) (yo : (Nat → Int64)) (y0 : (Nat → Int32)) (y1 : (Nat → Int32)) (yc : Int32) (yh : Int32) (xs : (Nat → Int32)) (xm : (Nat → Int32)) (xi : (Nat → Int32)) (xw : (Nat → Int32)) (xh : Int32) (xl : (Nat → Int32)) (xr : (Nat → Int32)) (xe : (Nat → Int32)) (xn : Int32) (xo : Int32) (xp : Int32) (xu : (Nat → Int32)) (xd : Int32) (H : Heap) (locs : List Loc) (ls : Array Slot), Inv yn yk yl yt yu ye yc yh xs xi xh xl xr xe xn xo → Hs D (fun q : Nat => s.heap.size ≤ q) s.heap (wMn cI cJ cQ ad yn ym yk yl yt yd yu ye yv yo y0 y1 yc yh ++ wMd cI bd xs xm xi xw xh xl xr xe xn xo xp xu xd) H locs → lv_has ls 4 [(0, .ref b), (1, .ref (ad 0)), (2, .ref (bd 0)), (3, .int (nI j))] → W p l e room_1 s m #[Value.ref b] below meth c H locs 44 733 (lw_Z below #[Value.ref b] s) (F0 m 1336 ls [])) : W p l e room_1 s m #[Value.ref b] below meth c H locs 44 733 (lw_Z below #[Value.ref b] s) (F0 m 358 ls []) := by
  obtain ⟨hx, hb, hml, hown, hts⟩ := id F
  have hA : ∀ q : Nat, s.heap.size ≤ q → (fun q : Nat => s.heap.size ≤ q) q := fun _ h => h
  have hbA : ¬ (fun q : Nat => s.heap.size ≤ q) b := Nat.not_le.mpr hbl
  obtain ⟨ra, rb, h1, h2, hr, hI⟩ := st_drives yn ym yk yl yt yd yu ye yv yo y0 y1 yc yh xs xm xi xw xh xl xr xe xn xo xp xu xd (xv (Int32.toNatClampNeg (nI j + 1))) (xv (Int32.toNatClampNeg (nI j + 2))) hI
  refine lv_aload_n hx hb dL_law_358 rfl (lv_at hl 1 rfl) ?_
  refine lv_aload_n hx hb dL_law_359 rfl (lv_at hl 0 rfl) ?_
  refine lv_iload_n hx hb dL_law_360 rfl (lv_at hl 3 rfl) ?_
  refine lv_iconst (v := 1) hx hb dL_law_361 (by decide) ?_
  refine lv_iadd hx hb dL_law_362 ?_
  refine va_sld hx hb hX hbl hbA hH.2.2 (law_ix hN hj 1 (by decide)) dL_law_363 ?_
  refine lv_aload_n hx hb dL_law_364 rfl (lv_at hl 0 rfl) ?_
  refine lv_iload_n hx hb dL_law_365 rfl (lv_at hl 3 rfl) ?_
  refine lv_iconst (v := 2) hx hb dL_law_366 (by decide) ?_
  refine lv_iadd hx hb dL_law_367 ?_
  refine va_sld hx hb hX hbl hbA hH.2.2 (law_ix hN hj 2 (by decide)) dL_law_368 ?_
  refine k_ViL F hK hH hA hl.1 ⟨(Nat.le_of_ble_eq_true rfl), (Nat.le_of_ble_eq_true rfl)⟩ [.int (xv (Int32.toNatClampNeg (nI j + 1))), .int (xv (Int32.toNatClampNeg (nI j + 2)))] [] (ctX3_drives ad yn ym yk yl yt yd yu ye yv yo y0 y1 yc yh (xv (Int32.toNatClampNeg (nI j + 1))) (xv (Int32.toNatClampNeg (nI j + 2))) h1) (cwV 2 F.2.2.2.2 gL_law_X3_drives rfl rfl rfl hdVX3_drives ⟨(Nat.le_of_ble_eq_true rfl), (Nat.le_of_ble_eq_true rfl)⟩) dL_law_369 rfl rfl rfl rfl rfl (Nat.le_of_ble_eq_true rfl) rfl (fun H locs hH => ?_)
  have hH : Hs D (fun q : Nat => s.heap.size ≤ q) s.heap (wMn cI cJ cQ ad ra.2.1 ym yk yl yt yd yu ra.2.2 yv yo y0 y1 yc yh ++ wMd cI bd xs xm xi xw xh xl xr xe xn xo xp xu xd) H locs := hH
  refine lv_aload_n hx hb dL_law_372 rfl (lv_at hl 2 rfl) ?_
  refine lv_aload_n hx hb dL_law_373 rfl (lv_at hl 0 rfl) ?_
  refine lv_iload_n hx hb dL_law_374 rfl (lv_at hl 3 rfl) ?_
  refine lv_iconst (v := 1) hx hb dL_law_375 (by decide) ?_
  refine lv_iadd hx hb dL_law_376 ?_
  refine va_sld hx hb hX hbl hbA hH.2.2 (law_ix hN hj 1 (by decide)) dL_law_377 ?_
  refine lv_aload_n hx hb dL_law_378 rfl (lv_at hl 0 rfl) ?_
  refine lv_iload_n hx hb dL_law_379 rfl (lv_at hl 3 rfl) ?_
  refine lv_iconst (v := 2) hx hb dL_law_380 (by decide) ?_
  refine lv_iadd hx hb dL_law_381 ?_
  refine va_sld hx hb hX hbl hbA hH.2.2 (law_ix hN hj 2 (by decide)) dL_law_382 ?_
  refine k_ViR F hK hH hA hl.1 ⟨(Nat.le_of_ble_eq_true rfl), (Nat.le_of_ble_eq_true rfl)⟩ [.int (xv (Int32.toNatClampNeg (nI j + 1))), .int (xv (Int32.toNatClampNeg (nI j + 2)))] [.int ra.1] (ctX4_drives bd xs xm xi xw xh xl xr xe xn xo xp xu xd (xv (Int32.toNatClampNeg (nI j + 1))) (xv (Int32.toNatClampNeg (nI j + 2))) h2) (cwV 2 F.2.2.2.2 gL_law_X4_drives rfl rfl rfl hdVX4_drives ⟨(Nat.le_of_ble_eq_true rfl), (Nat.le_of_ble_eq_true rfl)⟩) dL_law_383 rfl rfl rfl rfl rfl (Nat.le_of_ble_eq_true rfl) rfl (fun H locs hH => ?_)
  have hH : Hs D (fun q : Nat => s.heap.size ≤ q) s.heap (wMn cI cJ cQ ad ra.2.1 ym yk yl yt yd yu ra.2.2 yv yo y0 y1 yc yh ++ wMd cI bd rb.2.1 xm xi xw xh xl xr rb.2.2 xn xo xp xu xd) H locs := hH
  refine lv_icmp_eq (tgt := 1336) hx hb dL_law_386 (by decide) (fun _ => ?_) (fun hc => ?_)
  · exact NEXT _ _ _ _ _ _ _ _ _ _ _ _ _ _ _ _ _ _ _ _ _ _ _ _ _ _ _ H locs ls hI hH hl
  · exact absurd hr hc

set_option maxHeartbeats 4000000 in
set_option maxRecDepth 100000 in
theorem law_c7 {p : Program} {l : Launch} {e : Env} {s : State} {m : MethodId} {below : List Frame} {meth : Method} {c : Code} {D : va_G} {cI cJ cQ : ClassId} {aK aV : Nat → Nat} {ad bd : Nat → Nat} {b N j : Nat} {xv : Nat → Int32} (F : CallFix p m c cL_law 4 s #[Value.ref b] wsL_law RL) (hK : KK D cI cJ cQ s) (hT : TXF aK aV (fun q : Nat => s.heap.size ≤ q) s s.heap) (hX : va_X b N xv s s.heap) (hbl : b < s.heap.size) (hN : N ≤ 3072) (hj : j + 6 ≤ N) (yn : LandT) (ym : LandT) (yk : LandT) (yl : (Nat → Int32)) (yt : Int32) (yd : Int32) (yu : (Nat → Int32)) (ye : (Nat → Int32)) (yv : (Nat → Int32)) (yo : (Nat → Int64)) (y0 : (Nat → Int32)) (y1 : (Nat → Int32)) (yc : Int32) (yh : Int32) (xs : (Nat → Int32)) (xm : (Nat → Int32)) (xi : (Nat → Int32)) (xw : (Nat → Int32)) (xh : Int32) (xl : (Nat → Int32)) (xr : (Nat → Int32)) (xe : (Nat → Int32)) (xn : Int32) (xo : Int32) (xp : Int32) (xu : (Nat → Int32)) (xd : Int32) {H : Heap} {locs : List Loc} {ls : Array Slot} (hI : Inv yn yk yl yt yu ye yc yh xs xi xh xl xr xe xn xo) (hH : Hs D (fun q : Nat => s.heap.size ≤ q) s.heap (wMn cI cJ cQ ad yn ym yk yl yt yd yu ye yv yo y0 y1 yc yh ++ wMd cI bd xs xm xi xw xh xl xr xe xn xo xp xu xd) H locs) (hl : lv_has ls 4 [(0, .ref b), (1, .ref (ad 0)), (2, .ref (bd 0)), (3, .int (nI j))]) (NEXT : ∀ (yn : LandT) (ym : LandT) (yk : LandT) (yl : (Nat → Int32)) (yt : Int32) (yd : Int32) (yu : (Nat → Int32)) (ye : (Nat → Int32)) (yv : (Nat → Int32)) (yo : (Nat → Int64)) (y0 : (Nat → Int32)) (y1 : (Nat → Int32)) (yc : Int32) (yh : Int32) (xs : (Nat → Int32)) (xm : (Nat → Int32)) (xi : (Nat → Int32)) (xw : (Nat → Int32)) (xh : Int32) (xl : (Nat → Int32)) (xr : (Nat → Int32)) (xe : (Nat → Int32)) (xn : Int32) (xo : Int32) (xp : Int32) (xu : (Nat → Int32)) (xd : Int32) (H : Heap) (locs : List Loc) (ls : Array Slot), Inv yn yk yl yt yu ye yc yh xs xi xh xl xr xe xn xo → Hs D (fun q : Nat => s.heap.size ≤ q) s.heap (wMn cI cJ cQ ad yn ym yk yl yt yd yu ye yv yo y0 y1 yc yh ++ wMd cI bd xs xm xi xw xh xl xr xe xn xo xp xu xd) H locs → lv_has ls 4 [(0, .ref b), (1, .ref (ad 0)), (2, .ref (bd 0)), (3, .int (nI j))] → W p l e room_1 s m #[Value.ref b] below meth c H locs 44 733 (lw_Z below #[Value.ref b] s) (F0 m 1336 ls [])) : W p l e room_1 s m #[Value.ref b] below meth c H locs 44 733 (lw_Z below #[Value.ref b] s) (F0 m 391 ls []) := by
  obtain ⟨hx, hb, hml, hown, hts⟩ := id F
  have hA : ∀ q : Nat, s.heap.size ≤ q → (fun q : Nat => s.heap.size ≤ q) q := fun _ h => h
  have hbA : ¬ (fun q : Nat => s.heap.size ≤ q) b := Nat.not_le.mpr hbl
  obtain ⟨ra, rb, h1, h2, hr, hI⟩ := st_hides yn ym yk yl yt yd yu ye yv yo y0 y1 yc yh xs xm xi xw xh xl xr xe xn xo xp xu xd (xv (Int32.toNatClampNeg (nI j + 1))) hI
  refine lv_aload_n hx hb dL_law_391 rfl (lv_at hl 1 rfl) ?_
  refine lv_aload_n hx hb dL_law_392 rfl (lv_at hl 0 rfl) ?_
  refine lv_iload_n hx hb dL_law_393 rfl (lv_at hl 3 rfl) ?_
  refine lv_iconst (v := 1) hx hb dL_law_394 (by decide) ?_
  refine lv_iadd hx hb dL_law_395 ?_
  refine va_sld hx hb hX hbl hbA hH.2.2 (law_ix hN hj 1 (by decide)) dL_law_396 ?_
  refine k_ViL F hK hH hA hl.1 ⟨(Nat.le_of_ble_eq_true rfl), (Nat.le_of_ble_eq_true rfl)⟩ [.int (xv (Int32.toNatClampNeg (nI j + 1)))] [] (ctX3_hides ad yn ym yk yl yt yd yu ye yv yo y0 y1 yc yh (xv (Int32.toNatClampNeg (nI j + 1))) h1) (cwV 1 F.2.2.2.2 gL_law_X3_hides rfl rfl rfl hdVX3_hides ⟨(Nat.le_of_ble_eq_true rfl), (Nat.le_of_ble_eq_true rfl)⟩) dL_law_397 rfl rfl rfl rfl rfl (Nat.le_of_ble_eq_true rfl) rfl (fun H locs hH => ?_)
  have hH : Hs D (fun q : Nat => s.heap.size ≤ q) s.heap (wMn cI cJ cQ ad ra.2.1 ym yk yl yt yd yu ra.2.2 yv yo y0 y1 yc yh ++ wMd cI bd xs xm xi xw xh xl xr xe xn xo xp xu xd) H locs := hH
  refine lv_aload_n hx hb dL_law_400 rfl (lv_at hl 2 rfl) ?_
  refine lv_aload_n hx hb dL_law_401 rfl (lv_at hl 0 rfl) ?_
  refine lv_iload_n hx hb dL_law_402 rfl (lv_at hl 3 rfl) ?_
  refine lv_iconst (v := 1) hx hb dL_law_403 (by decide) ?_
  refine lv_iadd hx hb dL_law_404 ?_
  refine va_sld hx hb hX hbl hbA hH.2.2 (law_ix hN hj 1 (by decide)) dL_law_405 ?_
  refine k_ViR F hK hH hA hl.1 ⟨(Nat.le_of_ble_eq_true rfl), (Nat.le_of_ble_eq_true rfl)⟩ [.int (xv (Int32.toNatClampNeg (nI j + 1)))] [.int ra.1] (ctX4_hides bd xs xm xi xw xh xl xr xe xn xo xp xu xd (xv (Int32.toNatClampNeg (nI j + 1))) h2) (cwV 1 F.2.2.2.2 gL_law_X4_hides rfl rfl rfl hdVX4_hides ⟨(Nat.le_of_ble_eq_true rfl), (Nat.le_of_ble_eq_true rfl)⟩) dL_law_406 rfl rfl rfl rfl rfl (Nat.le_of_ble_eq_true rfl) rfl (fun H locs hH => ?_)
  have hH : Hs D (fun q : Nat => s.heap.size ≤ q) s.heap (wMn cI cJ cQ ad ra.2.1 ym yk yl yt yd yu ra.2.2 yv yo y0 y1 yc yh ++ wMd cI bd rb.2.1 xm xi xw xh xl xr rb.2.2 xn xo xp xu xd) H locs := hH
  refine lv_icmp_eq (tgt := 1336) hx hb dL_law_409 (by decide) (fun _ => ?_) (fun hc => ?_)
  · exact NEXT _ _ _ _ _ _ _ _ _ _ _ _ _ _ _ _ _ _ _ _ _ _ _ _ _ _ _ H locs ls hI hH hl
  · exact absurd hr hc

set_option maxHeartbeats 4000000 in
set_option maxRecDepth 100000 in
theorem law_c8 {p : Program} {l : Launch} {e : Env} {s : State} {m : MethodId} {below : List Frame} {meth : Method} {c : Code} {D : va_G} {cI cJ cQ : ClassId} {aK aV : Nat → Nat} {ad bd : Nat → Nat} {b N j : Nat} {xv : Nat → Int32} (F : CallFix p m c cL_law 4 s #[Value.ref b] wsL_law RL) (hK : KK D cI cJ cQ s) (hT : TXF aK aV (fun q : Nat => s.heap.size ≤ q) s s.heap) (hX : va_X b N xv s s.heap) (hbl : b < s.heap.size) (hN : N ≤ 3072) (hj : j + 6 ≤ N) (yn : LandT) (ym : LandT) (yk : LandT) (yl : (Nat → Int32)) (yt : Int32) (yd : Int32) (yu : (Nat → Int32)) (ye : (Nat → Int32)) (yv : (Nat → Int32)) (yo : (Nat → Int64)) (y0 : (Nat → Int32)) (y1 : (Nat → Int32)) (yc : Int32) (yh : Int32) (xs : (Nat → Int32)) (xm : (Nat → Int32)) (xi : (Nat → Int32)) (xw : (Nat → Int32)) (xh : Int32) (xl : (Nat → Int32)) (xr : (Nat → Int32)) (xe : (Nat → Int32)) (xn : Int32) (xo : Int32) (xp : Int32) (xu : (Nat → Int32)) (xd : Int32) {H : Heap} {locs : List Loc} {ls : Array Slot} (hI : Inv yn yk yl yt yu ye yc yh xs xi xh xl xr xe xn xo) (hH : Hs D (fun q : Nat => s.heap.size ≤ q) s.heap (wMn cI cJ cQ ad yn ym yk yl yt yd yu ye yv yo y0 y1 yc yh ++ wMd cI bd xs xm xi xw xh xl xr xe xn xo xp xu xd) H locs) (hl : lv_has ls 4 [(0, .ref b), (1, .ref (ad 0)), (2, .ref (bd 0)), (3, .int (nI j))]) (NEXT : ∀ (yn : LandT) (ym : LandT) (yk : LandT) (yl : (Nat → Int32)) (yt : Int32) (yd : Int32) (yu : (Nat → Int32)) (ye : (Nat → Int32)) (yv : (Nat → Int32)) (yo : (Nat → Int64)) (y0 : (Nat → Int32)) (y1 : (Nat → Int32)) (yc : Int32) (yh : Int32) (xs : (Nat → Int32)) (xm : (Nat → Int32)) (xi : (Nat → Int32)) (xw : (Nat → Int32)) (xh : Int32) (xl : (Nat → Int32)) (xr : (Nat → Int32)) (xe : (Nat → Int32)) (xn : Int32) (xo : Int32) (xp : Int32) (xu : (Nat → Int32)) (xd : Int32) (H : Heap) (locs : List Loc) (ls : Array Slot), Inv yn yk yl yt yu ye yc yh xs xi xh xl xr xe xn xo → Hs D (fun q : Nat => s.heap.size ≤ q) s.heap (wMn cI cJ cQ ad yn ym yk yl yt yd yu ye yv yo y0 y1 yc yh ++ wMd cI bd xs xm xi xw xh xl xr xe xn xo xp xu xd) H locs → lv_has ls 4 [(0, .ref b), (1, .ref (ad 0)), (2, .ref (bd 0)), (3, .int (nI j))] → W p l e room_1 s m #[Value.ref b] below meth c H locs 44 733 (lw_Z below #[Value.ref b] s) (F0 m 1336 ls [])) : W p l e room_1 s m #[Value.ref b] below meth c H locs 44 733 (lw_Z below #[Value.ref b] s) (F0 m 414 ls []) := by
  obtain ⟨hx, hb, hml, hown, hts⟩ := id F
  have hA : ∀ q : Nat, s.heap.size ≤ q → (fun q : Nat => s.heap.size ≤ q) q := fun _ h => h
  have hbA : ¬ (fun q : Nat => s.heap.size ≤ q) b := Nat.not_le.mpr hbl
  obtain ⟨ra, rb, h1, h2, hr, hI⟩ := st_decrees yn ym yk yl yt yd yu ye yv yo y0 y1 yc yh xs xm xi xw xh xl xr xe xn xo xp xu xd (xv (Int32.toNatClampNeg (nI j + 1))) (xv (Int32.toNatClampNeg (nI j + 2))) (xv (Int32.toNatClampNeg (nI j + 3))) hI
  refine lv_aload_n hx hb dL_law_414 rfl (lv_at hl 1 rfl) ?_
  refine lv_aload_n hx hb dL_law_415 rfl (lv_at hl 0 rfl) ?_
  refine lv_iload_n hx hb dL_law_416 rfl (lv_at hl 3 rfl) ?_
  refine lv_iconst (v := 1) hx hb dL_law_417 (by decide) ?_
  refine lv_iadd hx hb dL_law_418 ?_
  refine va_sld hx hb hX hbl hbA hH.2.2 (law_ix hN hj 1 (by decide)) dL_law_419 ?_
  refine lv_aload_n hx hb dL_law_420 rfl (lv_at hl 0 rfl) ?_
  refine lv_iload_n hx hb dL_law_421 rfl (lv_at hl 3 rfl) ?_
  refine lv_iconst (v := 2) hx hb dL_law_422 (by decide) ?_
  refine lv_iadd hx hb dL_law_423 ?_
  refine va_sld hx hb hX hbl hbA hH.2.2 (law_ix hN hj 2 (by decide)) dL_law_424 ?_
  refine lv_aload_n hx hb dL_law_425 rfl (lv_at hl 0 rfl) ?_
  refine lv_iload_n hx hb dL_law_426 rfl (lv_at hl 3 rfl) ?_
  refine lv_iconst (v := 3) hx hb dL_law_427 (by decide) ?_
  refine lv_iadd hx hb dL_law_428 ?_
  refine va_sld hx hb hX hbl hbA hH.2.2 (law_ix hN hj 3 (by decide)) dL_law_429 ?_
  refine k_ViL F hK hH hA hl.1 ⟨(Nat.le_of_ble_eq_true rfl), (Nat.le_of_ble_eq_true rfl)⟩ [.int (xv (Int32.toNatClampNeg (nI j + 1))), .int (xv (Int32.toNatClampNeg (nI j + 2))), .int (xv (Int32.toNatClampNeg (nI j + 3)))] [] (ctX3_decrees ad yn ym yk yl yt yd yu ye yv yo y0 y1 yc yh (xv (Int32.toNatClampNeg (nI j + 1))) (xv (Int32.toNatClampNeg (nI j + 2))) (xv (Int32.toNatClampNeg (nI j + 3))) h1) (cwV 3 F.2.2.2.2 gL_law_X3_decrees rfl rfl rfl hdVX3_decrees ⟨(Nat.le_of_ble_eq_true rfl), (Nat.le_of_ble_eq_true rfl)⟩) dL_law_430 rfl rfl rfl rfl rfl (Nat.le_of_ble_eq_true rfl) rfl (fun H locs hH => ?_)
  have hH : Hs D (fun q : Nat => s.heap.size ≤ q) s.heap (wMn cI cJ cQ ad ra.2.1 ym yk yl yt yd yu ra.2.2 yv yo y0 y1 yc yh ++ wMd cI bd xs xm xi xw xh xl xr xe xn xo xp xu xd) H locs := hH
  refine lv_aload_n hx hb dL_law_433 rfl (lv_at hl 2 rfl) ?_
  refine lv_aload_n hx hb dL_law_434 rfl (lv_at hl 0 rfl) ?_
  refine lv_iload_n hx hb dL_law_435 rfl (lv_at hl 3 rfl) ?_
  refine lv_iconst (v := 1) hx hb dL_law_436 (by decide) ?_
  refine lv_iadd hx hb dL_law_437 ?_
  refine va_sld hx hb hX hbl hbA hH.2.2 (law_ix hN hj 1 (by decide)) dL_law_438 ?_
  refine lv_aload_n hx hb dL_law_439 rfl (lv_at hl 0 rfl) ?_
  refine lv_iload_n hx hb dL_law_440 rfl (lv_at hl 3 rfl) ?_
  refine lv_iconst (v := 2) hx hb dL_law_441 (by decide) ?_
  refine lv_iadd hx hb dL_law_442 ?_
  refine va_sld hx hb hX hbl hbA hH.2.2 (law_ix hN hj 2 (by decide)) dL_law_443 ?_
  refine lv_aload_n hx hb dL_law_444 rfl (lv_at hl 0 rfl) ?_
  refine lv_iload_n hx hb dL_law_445 rfl (lv_at hl 3 rfl) ?_
  refine lv_iconst (v := 3) hx hb dL_law_446 (by decide) ?_
  refine lv_iadd hx hb dL_law_447 ?_
  refine va_sld hx hb hX hbl hbA hH.2.2 (law_ix hN hj 3 (by decide)) dL_law_448 ?_
  refine k_ViR F hK hH hA hl.1 ⟨(Nat.le_of_ble_eq_true rfl), (Nat.le_of_ble_eq_true rfl)⟩ [.int (xv (Int32.toNatClampNeg (nI j + 1))), .int (xv (Int32.toNatClampNeg (nI j + 2))), .int (xv (Int32.toNatClampNeg (nI j + 3)))] [.int ra.1] (ctX4_decrees bd xs xm xi xw xh xl xr xe xn xo xp xu xd (xv (Int32.toNatClampNeg (nI j + 1))) (xv (Int32.toNatClampNeg (nI j + 2))) (xv (Int32.toNatClampNeg (nI j + 3))) h2) (cwV 3 F.2.2.2.2 gL_law_X4_decrees rfl rfl rfl hdVX4_decrees ⟨(Nat.le_of_ble_eq_true rfl), (Nat.le_of_ble_eq_true rfl)⟩) dL_law_449 rfl rfl rfl rfl rfl (Nat.le_of_ble_eq_true rfl) rfl (fun H locs hH => ?_)
  have hH : Hs D (fun q : Nat => s.heap.size ≤ q) s.heap (wMn cI cJ cQ ad ra.2.1 ym yk yl yt yd yu ra.2.2 yv yo y0 y1 yc yh ++ wMd cI bd rb.2.1 xm xi xw xh xl xr rb.2.2 xn xo xp xu xd) H locs := hH
  refine lv_icmp_eq (tgt := 1336) hx hb dL_law_452 (by decide) (fun _ => ?_) (fun hc => ?_)
  · exact NEXT _ _ _ _ _ _ _ _ _ _ _ _ _ _ _ _ _ _ _ _ _ _ _ _ _ _ _ H locs ls hI hH hl
  · exact absurd hr hc

set_option maxHeartbeats 4000000 in
set_option maxRecDepth 100000 in
theorem law_c9 {p : Program} {l : Launch} {e : Env} {s : State} {m : MethodId} {below : List Frame} {meth : Method} {c : Code} {D : va_G} {cI cJ cQ : ClassId} {aK aV : Nat → Nat} {ad bd : Nat → Nat} {b N j : Nat} {xv : Nat → Int32} (F : CallFix p m c cL_law 4 s #[Value.ref b] wsL_law RL) (hK : KK D cI cJ cQ s) (hT : TXF aK aV (fun q : Nat => s.heap.size ≤ q) s s.heap) (hX : va_X b N xv s s.heap) (hbl : b < s.heap.size) (hN : N ≤ 3072) (hj : j + 6 ≤ N) (yn : LandT) (ym : LandT) (yk : LandT) (yl : (Nat → Int32)) (yt : Int32) (yd : Int32) (yu : (Nat → Int32)) (ye : (Nat → Int32)) (yv : (Nat → Int32)) (yo : (Nat → Int64)) (y0 : (Nat → Int32)) (y1 : (Nat → Int32)) (yc : Int32) (yh : Int32) (xs : (Nat → Int32)) (xm : (Nat → Int32)) (xi : (Nat → Int32)) (xw : (Nat → Int32)) (xh : Int32) (xl : (Nat → Int32)) (xr : (Nat → Int32)) (xe : (Nat → Int32)) (xn : Int32) (xo : Int32) (xp : Int32) (xu : (Nat → Int32)) (xd : Int32) {H : Heap} {locs : List Loc} {ls : Array Slot} (hI : Inv yn yk yl yt yu ye yc yh xs xi xh xl xr xe xn xo) (hH : Hs D (fun q : Nat => s.heap.size ≤ q) s.heap (wMn cI cJ cQ ad yn ym yk yl yt yd yu ye yv yo y0 y1 yc yh ++ wMd cI bd xs xm xi xw xh xl xr xe xn xo xp xu xd) H locs) (hl : lv_has ls 4 [(0, .ref b), (1, .ref (ad 0)), (2, .ref (bd 0)), (3, .int (nI j))]) (NEXT : ∀ (yn : LandT) (ym : LandT) (yk : LandT) (yl : (Nat → Int32)) (yt : Int32) (yd : Int32) (yu : (Nat → Int32)) (ye : (Nat → Int32)) (yv : (Nat → Int32)) (yo : (Nat → Int64)) (y0 : (Nat → Int32)) (y1 : (Nat → Int32)) (yc : Int32) (yh : Int32) (xs : (Nat → Int32)) (xm : (Nat → Int32)) (xi : (Nat → Int32)) (xw : (Nat → Int32)) (xh : Int32) (xl : (Nat → Int32)) (xr : (Nat → Int32)) (xe : (Nat → Int32)) (xn : Int32) (xo : Int32) (xp : Int32) (xu : (Nat → Int32)) (xd : Int32) (H : Heap) (locs : List Loc) (ls : Array Slot), Inv yn yk yl yt yu ye yc yh xs xi xh xl xr xe xn xo → Hs D (fun q : Nat => s.heap.size ≤ q) s.heap (wMn cI cJ cQ ad yn ym yk yl yt yd yu ye yv yo y0 y1 yc yh ++ wMd cI bd xs xm xi xw xh xl xr xe xn xo xp xu xd) H locs → lv_has ls 4 [(0, .ref b), (1, .ref (ad 0)), (2, .ref (bd 0)), (3, .int (nI j))] → W p l e room_1 s m #[Value.ref b] below meth c H locs 44 733 (lw_Z below #[Value.ref b] s) (F0 m 1336 ls [])) : W p l e room_1 s m #[Value.ref b] below meth c H locs 44 733 (lw_Z below #[Value.ref b] s) (F0 m 457 ls []) := by
  obtain ⟨hx, hb, hml, hown, hts⟩ := id F
  have hA : ∀ q : Nat, s.heap.size ≤ q → (fun q : Nat => s.heap.size ≤ q) q := fun _ h => h
  have hbA : ¬ (fun q : Nat => s.heap.size ≤ q) b := Nat.not_le.mpr hbl
  obtain ⟨ra, rb, h1, h2, hr, hI⟩ := st_eyes yn ym yk yl yt yd yu ye yv yo y0 y1 yc yh xs xm xi xw xh xl xr xe xn xo xp xu xd (xv (Int32.toNatClampNeg (nI j + 1))) hI
  refine lv_aload_n hx hb dL_law_457 rfl (lv_at hl 1 rfl) ?_
  refine lv_aload_n hx hb dL_law_458 rfl (lv_at hl 0 rfl) ?_
  refine lv_iload_n hx hb dL_law_459 rfl (lv_at hl 3 rfl) ?_
  refine lv_iconst (v := 1) hx hb dL_law_460 (by decide) ?_
  refine lv_iadd hx hb dL_law_461 ?_
  refine va_sld hx hb hX hbl hbA hH.2.2 (law_ix hN hj 1 (by decide)) dL_law_462 ?_
  refine k_ViL F hK hH hA hl.1 ⟨(Nat.le_of_ble_eq_true rfl), (Nat.le_of_ble_eq_true rfl)⟩ [.int (xv (Int32.toNatClampNeg (nI j + 1)))] [] (ctX3_eyes ad yn ym yk yl yt yd yu ye yv yo y0 y1 yc yh (xv (Int32.toNatClampNeg (nI j + 1))) h1) (cwV 1 F.2.2.2.2 gL_law_X3_eyes rfl rfl rfl hdVX3_eyes ⟨(Nat.le_of_ble_eq_true rfl), (Nat.le_of_ble_eq_true rfl)⟩) dL_law_463 rfl rfl rfl rfl rfl (Nat.le_of_ble_eq_true rfl) rfl (fun H locs hH => ?_)
  have hH : Hs D (fun q : Nat => s.heap.size ≤ q) s.heap (wMn cI cJ cQ ad ra.2.1 ym yk yl yt yd yu ra.2.2 yv yo y0 y1 yc yh ++ wMd cI bd xs xm xi xw xh xl xr xe xn xo xp xu xd) H locs := hH
  refine lv_aload_n hx hb dL_law_466 rfl (lv_at hl 2 rfl) ?_
  refine lv_aload_n hx hb dL_law_467 rfl (lv_at hl 0 rfl) ?_
  refine lv_iload_n hx hb dL_law_468 rfl (lv_at hl 3 rfl) ?_
  refine lv_iconst (v := 1) hx hb dL_law_469 (by decide) ?_
  refine lv_iadd hx hb dL_law_470 ?_
  refine va_sld hx hb hX hbl hbA hH.2.2 (law_ix hN hj 1 (by decide)) dL_law_471 ?_
  refine k_ViR F hK hH hA hl.1 ⟨(Nat.le_of_ble_eq_true rfl), (Nat.le_of_ble_eq_true rfl)⟩ [.int (xv (Int32.toNatClampNeg (nI j + 1)))] [.int ra.1] (ctX4_eyes bd xs xm xi xw xh xl xr xe xn xo xp xu xd (xv (Int32.toNatClampNeg (nI j + 1))) h2) (cwV 1 F.2.2.2.2 gL_law_X4_eyes rfl rfl rfl hdVX4_eyes ⟨(Nat.le_of_ble_eq_true rfl), (Nat.le_of_ble_eq_true rfl)⟩) dL_law_472 rfl rfl rfl rfl rfl (Nat.le_of_ble_eq_true rfl) rfl (fun H locs hH => ?_)
  have hH : Hs D (fun q : Nat => s.heap.size ≤ q) s.heap (wMn cI cJ cQ ad ra.2.1 ym yk yl yt yd yu ra.2.2 yv yo y0 y1 yc yh ++ wMd cI bd rb.2.1 xm xi xw xh xl xr rb.2.2 xn xo xp xu xd) H locs := hH
  refine lv_icmp_eq (tgt := 1336) hx hb dL_law_475 (by decide) (fun _ => ?_) (fun hc => ?_)
  · exact NEXT _ _ _ _ _ _ _ _ _ _ _ _ _ _ _ _ _ _ _ _ _ _ _ _ _ _ _ H locs ls hI hH hl
  · exact absurd hr hc

