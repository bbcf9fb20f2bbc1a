set_option maxHeartbeats 4000000 in
set_option maxRecDepth 100000 in
theorem law_c29 {p : Program} {l : Launch} {e : Env} {s : State} {m : MethodId} {below : List Frame} {meth : Method} {c : Code} {D : va_G} {cI cJ cQ : ClassId} {aK aV : Nat → Nat} {ad bd : Nat → Nat} {b N j : Nat} {xv : Nat → Int32} (F : CallFix p m c cL_law 4 s #[Value.ref b] wsL_law RL) (hK : KK D cI cJ cQ s) (hT : TXF aK aV (fun q : Nat => s.heap.size ≤ q) s s.heap) (hX : va_X b N xv s s.heap) (hbl : b < s.heap.size) (hN : N ≤ 3072) (hj : j + 6 ≤ N) (yn : LandT) (ym : LandT) (yk : LandT) (yl : (Nat → Int32)) (yt : Int32) (yd : Int32) (yu : (Nat → Int32)) (ye : (Nat → Int32)) (yv : (Nat → Int32)) (yo : (Nat → Int64)) (y0 : (Nat → Int32)) (y1 : (Nat → Int32)) (yc : Int32) (yh : Int32) (xs : (Nat → Int32)) (xm : (Nat → Int32)) (xi : (Nat → Int32)) (xw : (Nat → Int32)) (xh : Int32) (xl : (Nat → Int32)) (xr : (Nat → Int32)) (xe : (Nat → Int32)) (xn : Int32) (xo : Int32) (xp : Int32) (xu : (Nat → Int32)) (xd : Int32) {H : Heap} {locs : List Loc} {ls : Array Slot} (hI : Inv yn yk yl yt yu ye yc yh xs xi xh xl xr xe xn xo) (hH : Hs D (fun q : Nat => s.heap.size ≤ q) s.heap (wMn cI cJ cQ ad yn ym yk yl yt yd yu ye yv yo y0 y1 yc yh ++ wMd cI bd xs xm xi xw xh xl xr xe xn xo xp xu xd) H locs) (hl : lv_has ls 4 [(0, .ref b), (1, .ref (ad 0)), (2, .ref (bd 0)), (3, .int (nI j))]) (NEXT : ∀ (yn : LandT) (ym : LandT) (yk : LandT) (yl : (Nat → Int32)) (yt : Int32) (yd : Int32) (yu : (Nat → Int32)) (ye : (Nat → Int32)) (yv : (Nat → Int32)) (yo : (Nat → Int64)) (y0 : (Nat → Int32)) (y1 : (Nat → Int32)) (yc : Int32) (yh : Int32) (xs : (Nat → Int32)) (xm : (Nat → Int32)) (xi : (Nat → Int32)) (xw : (Nat → Int32)) (xh : Int32) (xl : (Nat → Int32)) (xr : (Nat → Int32)) (xe : (Nat → Int32)) (xn : Int32) (xo : Int32) (xp : Int32) (xu : (Nat → Int32)) (xd : Int32) (H : Heap) (locs : List Loc) (ls : Array Slot), Inv yn yk yl yt yu ye yc yh xs xi xh xl xr xe xn xo → Hs D (fun q : Nat => s.heap.size ≤ q) s.heap (wMn cI cJ cQ ad yn ym yk yl yt yd yu ye yv yo y0 y1 yc yh ++ wMd cI bd xs xm xi xw xh xl xr xe xn xo xp xu xd) H locs → lv_has ls 4 [(0, .ref b), (1, .ref (ad 0)), (2, .ref (bd 0)), (3, .int (nI j))] → W p l e room_1 s m #[Value.ref b] below meth c H locs 44 733 (lw_Z below #[Value.ref b] s) (F0 m 1336 ls [])) : W p l e room_1 s m #[Value.ref b] below meth c H locs 44 733 (lw_Z below #[Value.ref b] s) (F0 m 1128 ls []) := by
  obtain ⟨hx, hb, hml, hown, hts⟩ := id F
  have hA : ∀ q : Nat, s.heap.size ≤ q → (fun q : Nat => s.heap.size ≤ q) q := fun _ h => h
  have hbA : ¬ (fun q : Nat => s.heap.size ≤ q) b := Nat.not_le.mpr hbl
  obtain ⟨ra, rb, h1, h2, hr, hI⟩ := st_mean yn ym yk yl yt yd yu ye yv yo y0 y1 yc yh xs xm xi xw xh xl xr xe xn xo xp xu xd (xv (Int32.toNatClampNeg (nI j + 1))) hI
  refine lv_aload_n hx hb dL_law_1128 rfl (lv_at hl 1 rfl) ?_
  refine lv_aload_n hx hb dL_law_1129 rfl (lv_at hl 0 rfl) ?_
  refine lv_iload_n hx hb dL_law_1130 rfl (lv_at hl 3 rfl) ?_
  refine lv_iconst (v := 1) hx hb dL_law_1131 (by decide) ?_
  refine lv_iadd hx hb dL_law_1132 ?_
  refine va_sld hx hb hX hbl hbA hH.2.2 (law_ix hN hj 1 (by decide)) dL_law_1133 ?_
  refine k_VlL F hK hH hA hl.1 ⟨(Nat.le_of_ble_eq_true rfl), (Nat.le_of_ble_eq_true rfl)⟩ [.int (xv (Int32.toNatClampNeg (nI j + 1)))] [] (ctX3_mean ad yn ym yk yl yt yd yu ye yv yo y0 y1 yc yh (xv (Int32.toNatClampNeg (nI j + 1))) h1) (cwV 1 F.2.2.2.2 gL_law_X3_mean rfl rfl rfl hdVX3_mean ⟨(Nat.le_of_ble_eq_true rfl), (Nat.le_of_ble_eq_true rfl)⟩) dL_law_1134 rfl rfl rfl rfl rfl (Nat.le_of_ble_eq_true rfl) rfl (fun H locs hH => ?_)
  have hH : Hs D (fun q : Nat => s.heap.size ≤ q) s.heap (wMn cI cJ cQ ad yn ym yk yl yt yd yu ra.2 yv yo y0 y1 yc yh ++ wMd cI bd xs xm xi xw xh xl xr xe xn xo xp xu xd) H locs := hH
  refine lv_aload_n hx hb dL_law_1137 rfl (lv_at hl 2 rfl) ?_
  refine lv_aload_n hx hb dL_law_1138 rfl (lv_at hl 0 rfl) ?_
  refine lv_iload_n hx hb dL_law_1139 rfl (lv_at hl 3 rfl) ?_
  refine lv_iconst (v := 1) hx hb dL_law_1140 (by decide) ?_
  refine lv_iadd hx hb dL_law_1141 ?_
  refine va_sld hx hb hX hbl hbA hH.2.2 (law_ix hN hj 1 (by decide)) dL_law_1142 ?_
  refine k_VlR F hK hH hA hl.1 ⟨(Nat.le_of_ble_eq_true rfl), (Nat.le_of_ble_eq_true rfl)⟩ [.int (xv (Int32.toNatClampNeg (nI j + 1)))] [.long ra.1] (ctX4_mean bd xs xm xi xw xh xl xr xe xn xo xp xu xd (xv (Int32.toNatClampNeg (nI j + 1))) h2) (cwV 1 F.2.2.2.2 gL_law_X4_mean rfl rfl rfl hdVX4_mean ⟨(Nat.le_of_ble_eq_true rfl), (Nat.le_of_ble_eq_true rfl)⟩) dL_law_1143 rfl rfl rfl rfl rfl (Nat.le_of_ble_eq_true rfl) rfl (fun H locs hH => ?_)
  have hH : Hs D (fun q : Nat => s.heap.size ≤ q) s.heap (wMn cI cJ cQ ad yn ym yk yl yt yd yu ra.2 yv yo y0 y1 yc yh ++ wMd cI bd xs xm xi xw xh xl xr rb.2 xn xo xp xu xd) H locs := hH
  refine W.lcmp hx hb dL_law_1146 ?_
  refine lv_if_eq (tgt := 1336) hx hb dL_law_1147 (by decide) (fun _ => ?_) (fun hc => ?_)
  · exact NEXT _ _ _ _ _ _ _ _ _ _ _ _ _ _ _ _ _ _ _ _ _ _ _ _ _ _ _ H locs ls hI hH hl
  · exact absurd (by rw [hr]; exact law_cmp _) hc

set_option maxHeartbeats 4000000 in
set_option maxRecDepth 100000 in
theorem law_c30 {p : Program} {l : Launch} {e : Env} {s : State} {m : MethodId} {below : List Frame} {meth : Method} {c : Code} {D : va_G} {cI cJ cQ : ClassId} {aK aV : Nat → Nat} {ad bd : Nat → Nat} {b N j : Nat} {xv : Nat → Int32} (F : CallFix p m c cL_law 4 s #[Value.ref b] wsL_law RL) (hK : KK D cI cJ cQ s) (hT : TXF aK aV (fun q : Nat => s.heap.size ≤ q) s s.heap) (hX : va_X b N xv s s.heap) (hbl : b < s.heap.size) (hN : N ≤ 3072) (hj : j + 6 ≤ N) (yn : LandT) (ym : LandT) (yk : LandT) (yl : (Nat → Int32)) (yt : Int32) (yd : Int32) (yu : (Nat → Int32)) (ye : (Nat → Int32)) (yv : (Nat → Int32)) (yo : (Nat → Int64)) (y0 : (Nat → Int32)) (y1 : (Nat → Int32)) (yc : Int32) (yh : Int32) (xs : (Nat → Int32)) (xm : (Nat → Int32)) (xi : (Nat → Int32)) (xw : (Nat → Int32)) (xh : Int32) (xl : (Nat → Int32)) (xr : (Nat → Int32)) (xe : (Nat → Int32)) (xn : Int32) (xo : Int32) (xp : Int32) (xu : (Nat → Int32)) (xd : Int32) {H : Heap} {locs : List Loc} {ls : Array Slot} (hI : Inv yn yk yl yt yu ye yc yh xs xi xh xl xr xe xn xo) (hH : Hs D (fun q : Nat => s.heap.size ≤ q) s.heap (wMn cI cJ cQ ad yn ym yk yl yt yd yu ye yv yo y0 y1 yc yh ++ wMd cI bd xs xm xi xw xh xl xr xe xn xo xp xu xd) H locs) (hl : lv_has ls 4 [(0, .ref b), (1, .ref (ad 0)), (2, .ref (bd 0)), (3, .int (nI j))]) (NEXT : ∀ (yn : LandT) (ym : LandT) (yk : LandT) (yl : (Nat → Int32)) (yt : Int32) (yd : Int32) (yu : (Nat → Int32)) (ye : (Nat → Int32)) (yv : (Nat → Int32)) (yo : (Nat → Int64)) (y0 : (Nat → Int32)) (y1 : (Nat → Int32)) (yc : Int32) (yh : Int32) (xs : (Nat → Int32)) (xm : (Nat → Int32)) (xi : (Nat → Int32)) (xw : (Nat → Int32)) (xh : Int32) (xl : (Nat → Int32)) (xr : (Nat → Int32)) (xe : (Nat → Int32)) (xn : Int32) (xo : Int32) (xp : Int32) (xu : (Nat → Int32)) (xd : Int32) (H : Heap) (locs : List Loc) (ls : Array Slot), Inv yn yk yl yt yu ye yc yh xs xi xh xl xr xe xn xo → Hs D (fun q : Nat => s.heap.size ≤ q) s.heap (wMn cI cJ cQ ad yn ym yk yl yt yd yu ye yv yo y0 y1 yc yh ++ wMd cI bd xs xm xi xw xh xl xr xe xn xo xp xu xd) H locs → lv_has ls 4 [(0, .ref b), (1, .ref (ad 0)), (2, .ref (bd 0)), (3, .int (nI j))] → W p l e room_1 s m #[Value.ref b] below meth c H locs 44 733 (lw_Z below #[Value.ref b] s) (F0 m 1336 ls [])) : W p l e room_1 s m #[Value.ref b] below meth c H locs 44 733 (lw_Z below #[Value.ref b] s) (F0 m 1152 ls []) := by
  obtain ⟨hx, hb, hml, hown, hts⟩ := id F
  have hA : ∀ q : Nat, s.heap.size ≤ q → (fun q : Nat => s.heap.size ≤ q) q := fun _ h => h
  have hbA : ¬ (fun q : Nat => s.heap.size ≤ q) b := Nat.not_le.mpr hbl
  obtain ⟨ra, rb, h1, h2, hr, hI⟩ := st_whereWas yn ym yk yl yt yd yu ye yv yo y0 y1 yc yh xs xm xi xw xh xl xr xe xn xo xp xu xd (xv (Int32.toNatClampNeg (nI j + 1))) (xv (Int32.toNatClampNeg (nI j + 2))) (xv (Int32.toNatClampNeg (nI j + 3))) hI
  refine lv_aload_n hx hb dL_law_1152 rfl (lv_at hl 1 rfl) ?_
  refine lv_aload_n hx hb dL_law_1153 rfl (lv_at hl 0 rfl) ?_
  refine lv_iload_n hx hb dL_law_1154 rfl (lv_at hl 3 rfl) ?_
  refine lv_iconst (v := 1) hx hb dL_law_1155 (by decide) ?_
  refine lv_iadd hx hb dL_law_1156 ?_
  refine va_sld hx hb hX hbl hbA hH.2.2 (law_ix hN hj 1 (by decide)) dL_law_1157 ?_
  refine lv_aload_n hx hb dL_law_1158 rfl (lv_at hl 0 rfl) ?_
  refine lv_iload_n hx hb dL_law_1159 rfl (lv_at hl 3 rfl) ?_
  refine lv_iconst (v := 2) hx hb dL_law_1160 (by decide) ?_
  refine lv_iadd hx hb dL_law_1161 ?_
  refine va_sld hx hb hX hbl hbA hH.2.2 (law_ix hN hj 2 (by decide)) dL_law_1162 ?_
  refine lv_aload_n hx hb dL_law_1163 rfl (lv_at hl 0 rfl) ?_
  refine lv_iload_n hx hb dL_law_1164 rfl (lv_at hl 3 rfl) ?_
  refine lv_iconst (v := 3) hx hb dL_law_1165 (by decide) ?_
  refine lv_iadd hx hb dL_law_1166 ?_
  refine va_sld hx hb hX hbl hbA hH.2.2 (law_ix hN hj 3 (by decide)) dL_law_1167 ?_
  refine k_ViL F hK hH hA hl.1 ⟨(Nat.le_of_ble_eq_true rfl), (Nat.le_of_ble_eq_true rfl)⟩ [.int (xv (Int32.toNatClampNeg (nI j + 1))), .int (xv (Int32.toNatClampNeg (nI j + 2))), .int (xv (Int32.toNatClampNeg (nI j + 3)))] [] (ctX3_whereWas ad yn ym yk yl yt yd yu ye yv yo y0 y1 yc yh (xv (Int32.toNatClampNeg (nI j + 1))) (xv (Int32.toNatClampNeg (nI j + 2))) (xv (Int32.toNatClampNeg (nI j + 3))) h1) (cwV 3 F.2.2.2.2 gL_law_X3_whereWas rfl rfl rfl hdVX3_whereWas ⟨(Nat.le_of_ble_eq_true rfl), (Nat.le_of_ble_eq_true rfl)⟩) dL_law_1168 rfl rfl rfl rfl rfl (Nat.le_of_ble_eq_true rfl) rfl (fun H locs hH => ?_)
  have hH : Hs D (fun q : Nat => s.heap.size ≤ q) s.heap (wMn cI cJ cQ ad yn ra.2.1 yk yl yt yd yu ra.2.2 yv yo y0 y1 yc yh ++ wMd cI bd xs xm xi xw xh xl xr xe xn xo xp xu xd) H locs := hH
  refine lv_aload_n hx hb dL_law_1171 rfl (lv_at hl 2 rfl) ?_
  refine lv_aload_n hx hb dL_law_1172 rfl (lv_at hl 0 rfl) ?_
  refine lv_iload_n hx hb dL_law_1173 rfl (lv_at hl 3 rfl) ?_
  refine lv_iconst (v := 1) hx hb dL_law_1174 (by decide) ?_
  refine lv_iadd hx hb dL_law_1175 ?_
  refine va_sld hx hb hX hbl hbA hH.2.2 (law_ix hN hj 1 (by decide)) dL_law_1176 ?_
  refine lv_aload_n hx hb dL_law_1177 rfl (lv_at hl 0 rfl) ?_
  refine lv_iload_n hx hb dL_law_1178 rfl (lv_at hl 3 rfl) ?_
  refine lv_iconst (v := 2) hx hb dL_law_1179 (by decide) ?_
  refine lv_iadd hx hb dL_law_1180 ?_
  refine va_sld hx hb hX hbl hbA hH.2.2 (law_ix hN hj 2 (by decide)) dL_law_1181 ?_
  refine lv_aload_n hx hb dL_law_1182 rfl (lv_at hl 0 rfl) ?_
  refine lv_iload_n hx hb dL_law_1183 rfl (lv_at hl 3 rfl) ?_
  refine lv_iconst (v := 3) hx hb dL_law_1184 (by decide) ?_
  refine lv_iadd hx hb dL_law_1185 ?_
  refine va_sld hx hb hX hbl hbA hH.2.2 (law_ix hN hj 3 (by decide)) dL_law_1186 ?_
  refine k_ViR F hK hH hA hl.1 ⟨(Nat.le_of_ble_eq_true rfl), (Nat.le_of_ble_eq_true rfl)⟩ [.int (xv (Int32.toNatClampNeg (nI j + 1))), .int (xv (Int32.toNatClampNeg (nI j + 2))), .int (xv (Int32.toNatClampNeg (nI j + 3)))] [.int ra.1] (ctX4_whereWas bd xs xm xi xw xh xl xr xe xn xo xp xu xd (xv (Int32.toNatClampNeg (nI j + 1))) (xv (Int32.toNatClampNeg (nI j + 2))) (xv (Int32.toNatClampNeg (nI j + 3))) h2) (cwV 3 F.2.2.2.2 gL_law_X4_whereWas rfl rfl rfl hdVX4_whereWas ⟨(Nat.le_of_ble_eq_true rfl), (Nat.le_of_ble_eq_true rfl)⟩) dL_law_1187 rfl rfl rfl rfl rfl (Nat.le_of_ble_eq_true rfl) rfl (fun H locs hH => ?_)
  have hH : Hs D (fun q : Nat => s.heap.size ≤ q) s.heap (wMn cI cJ cQ ad yn ra.2.1 yk yl yt yd yu ra.2.2 yv yo y0 y1 yc yh ++ wMd cI bd xs rb.2.1 xi xw xh xl xr rb.2.2 xn xo xp xu xd) H locs := hH
  refine lv_icmp_eq (tgt := 1336) hx hb dL_law_1190 (by decide) (fun _ => ?_) (fun hc => ?_)
  · exact NEXT _ _ _ _ _ _ _ _ _ _ _ _ _ _ _ _ _ _ _ _ _ _ _ _ _ _ _ H locs ls hI hH hl
  · exact absurd hr hc

set_option maxHeartbeats 4000000 in
set_option maxRecDepth 100000 in
theorem law_c31 {p : Program} {l : Launch} {e : Env} {s : State} {m : MethodId} {below : List Frame} {meth : Method} {c : Code} {D : va_G} {cI cJ cQ : ClassId} {aK aV : Nat → Nat} {ad bd : Nat → Nat} {b N j : Nat} {xv : Nat → Int32} (F : CallFix p m c cL_law 4 s #[Value.ref b] wsL_law RL) (hK : KK D cI cJ cQ s) (hT : TXF aK aV (fun q : Nat => s.heap.size ≤ q) s s.heap) (hX : va_X b N xv s s.heap) (hbl : b < s.heap.size) (hN : N ≤ 3072) (hj : j + 6 ≤ N) (yn : LandT) (ym : LandT) (yk : LandT) (yl : (Nat → Int32)) (yt : Int32) (yd : Int32) (yu : (Nat → Int32)) (ye : (Nat → Int32)) (yv : (Nat → Int32)) (yo : (Nat → Int64)) (y0 : (Nat → Int32)) (y1 : (Nat → Int32)) (yc : Int32) (yh : Int32) (xs : (Nat → Int32)) (xm : (Nat → Int32)) (xi : (Nat → Int32)) (xw : (Nat → Int32)) (xh : Int32) (xl : (Nat → Int32)) (xr : (Nat → Int32)) (xe : (Nat → Int32)) (xn : Int32) (xo : Int32) (xp : Int32) (xu : (Nat → Int32)) (xd : Int32) {H : Heap} {locs : List Loc} {ls : Array Slot} (hI : Inv yn yk yl yt yu ye yc yh xs xi xh xl xr xe xn xo) (hH : Hs D (fun q : Nat => s.heap.size ≤ q) s.heap (wMn cI cJ cQ ad yn ym yk yl yt yd yu ye yv yo y0 y1 yc yh ++ wMd cI bd xs xm xi xw xh xl xr xe xn xo xp xu xd) H locs) (hl : lv_has ls 4 [(0, .ref b), (1, .ref (ad 0)), (2, .ref (bd 0)), (3, .int (nI j))]) (NEXT : ∀ (yn : LandT) (ym : LandT) (yk : LandT) (yl : (Nat → Int32)) (yt : Int32) (yd : Int32) (yu : (Nat → Int32)) (ye : (Nat → Int32)) (yv : (Nat → Int32)) (yo : (Nat → Int64)) (y0 : (Nat → Int32)) (y1 : (Nat → Int32)) (yc : Int32) (yh : Int32) (xs : (Nat → Int32)) (xm : (Nat → Int32)) (xi : (Nat → Int32)) (xw : (Nat → Int32)) (xh : Int32) (xl : (Nat → Int32)) (xr : (Nat → Int32)) (xe : (Nat → Int32)) (xn : Int32) (xo : Int32) (xp : Int32) (xu : (Nat → Int32)) (xd : Int32) (H : Heap) (locs : List Loc) (ls : Array Slot), Inv yn yk yl yt yu ye yc yh xs xi xh xl xr xe xn xo → Hs D (fun q : Nat => s.heap.size ≤ q) s.heap (wMn cI cJ cQ ad yn ym yk yl yt yd yu ye yv yo y0 y1 yc yh ++ wMd cI bd xs xm xi xw xh xl xr xe xn xo xp xu xd) H locs → lv_has ls 4 [(0, .ref b), (1, .ref (ad 0)), (2, .ref (bd 0)), (3, .int (nI j))] → W p l e room_1 s m #[Value.ref b] below meth c H locs 44 733 (lw_Z below #[Value.ref b] s) (F0 m 1336 ls [])) : W p l e room_1 s m #[Value.ref b] below meth c H locs 44 733 (lw_Z below #[Value.ref b] s) (F0 m 1195 ls []) := by
  obtain ⟨hx, hb, hml, hown, hts⟩ := id F
  have hA : ∀ q : Nat, s.heap.size ≤ q → (fun q : Nat => s.heap.size ≤ q) q := fun _ h => h
  have hbA : ¬ (fun q : Nat => s.heap.size ≤ q) b := Nat.not_le.mpr hbl
  obtain ⟨ra, rb, h1, h2, hr, hI⟩ := st_row yn ym yk yl yt yd yu ye yv yo y0 y1 yc yh xs xm xi xw xh xl xr xe xn xo xp xu xd (xv (Int32.toNatClampNeg (nI j + 1))) hI
  refine lv_aload_n hx hb dL_law_1195 rfl (lv_at hl 1 rfl) ?_
  refine lv_aload_n hx hb dL_law_1196 rfl (lv_at hl 0 rfl) ?_
  refine lv_iload_n hx hb dL_law_1197 rfl (lv_at hl 3 rfl) ?_
  refine lv_iconst (v := 1) hx hb dL_law_1198 (by decide) ?_
  refine lv_iadd hx hb dL_law_1199 ?_
  refine va_sld hx hb hX hbl hbA hH.2.2 (law_ix hN hj 1 (by decide)) dL_law_1200 ?_
  refine k_ViL F hK hH hA hl.1 ⟨(Nat.le_of_ble_eq_true rfl), (Nat.le_of_ble_eq_true rfl)⟩ [.int (xv (Int32.toNatClampNeg (nI j + 1)))] [] (ctX3_row ad yn ym yk yl yt yd yu ye yv yo y0 y1 yc yh (xv (Int32.toNatClampNeg (nI j + 1))) h1) (cwV 1 F.2.2.2.2 gL_law_X3_row rfl rfl rfl hdVX3_row ⟨(Nat.le_of_ble_eq_true rfl), (Nat.le_of_ble_eq_true rfl)⟩) dL_law_1201 rfl rfl rfl rfl rfl (Nat.le_of_ble_eq_true rfl) rfl (fun H locs hH => ?_)
  have hH : Hs D (fun q : Nat => s.heap.size ≤ q) s.heap (wMn cI cJ cQ ad yn ym yk yl yt yd ra.2.1 ra.2.2.1 yv yo y0 y1 ra.2.2.2 yh ++ wMd cI bd xs xm xi xw xh xl xr xe xn xo xp xu xd) H locs := hH
  refine lv_aload_n hx hb dL_law_1204 rfl (lv_at hl 2 rfl) ?_
  refine lv_aload_n hx hb dL_law_1205 rfl (lv_at hl 0 rfl) ?_
  refine lv_iload_n hx hb dL_law_1206 rfl (lv_at hl 3 rfl) ?_
  refine lv_iconst (v := 1) hx hb dL_law_1207 (by decide) ?_
  refine lv_iadd hx hb dL_law_1208 ?_
  refine va_sld hx hb hX hbl hbA hH.2.2 (law_ix hN hj 1 (by decide)) dL_law_1209 ?_
  refine k_ViR F hK hH hA hl.1 ⟨(Nat.le_of_ble_eq_true rfl), (Nat.le_of_ble_eq_true rfl)⟩ [.int (xv (Int32.toNatClampNeg (nI j + 1)))] [.int ra.1] (ctX4_row bd xs xm xi xw xh xl xr xe xn xo xp xu xd (xv (Int32.toNatClampNeg (nI j + 1))) h2) (cwV 1 F.2.2.2.2 gL_law_X4_row rfl rfl rfl hdVX4_row ⟨(Nat.le_of_ble_eq_true rfl), (Nat.le_of_ble_eq_true rfl)⟩) dL_law_1210 rfl rfl rfl rfl rfl (Nat.le_of_ble_eq_true rfl) rfl (fun H locs hH => ?_)
  have hH : Hs D (fun q : Nat => s.heap.size ≤ q) s.heap (wMn cI cJ cQ ad yn ym yk yl yt yd ra.2.1 ra.2.2.1 yv yo y0 y1 ra.2.2.2 yh ++ wMd cI bd xs xm xi xw xh xl rb.2.1 rb.2.2.1 xn rb.2.2.2 xp xu xd) H locs := hH
  refine lv_icmp_eq (tgt := 1336) hx hb dL_law_1213 (by decide) (fun _ => ?_) (fun hc => ?_)
  · exact NEXT _ _ _ _ _ _ _ _ _ _ _ _ _ _ _ _ _ _ _ _ _ _ _ _ _ _ _ H locs ls hI hH hl
  · exact absurd hr hc

set_option maxHeartbeats 4000000 in
set_option maxRecDepth 100000 in
theorem law_c32 {p : Program} {l : Launch} {e : Env} {s : State} {m : MethodId} {below : List Frame} {meth : Method} {c : Code} {D : va_G} {cI cJ cQ : ClassId} {aK aV : Nat → Nat} {ad bd : Nat → Nat} {b N j : Nat} {xv : Nat → Int32} (F : CallFix p m c cL_law 4 s #[Value.ref b] wsL_law RL) (hK : KK D cI cJ cQ s) (hT : TXF aK aV (fun q : Nat => s.heap.size ≤ q) s s.heap) (hX : va_X b N xv s s.heap) (hbl : b < s.heap.size) (hN : N ≤ 3072) (hj : j + 6 ≤ N) (yn : LandT) (ym : LandT) (yk : LandT) (yl : (Nat → Int32)) (yt : Int32) (yd : Int32) (yu : (Nat → Int32)) (ye : (Nat → Int32)) (yv : (Nat → Int32)) (yo : (Nat → Int64)) (y0 : (Nat → Int32)) (y1 : (Nat → Int32)) (yc : Int32) (yh : Int32) (xs : (Nat → Int32)) (xm : (Nat → Int32)) (xi : (Nat → Int32)) (xw : (Nat → Int32)) (xh : Int32) (xl : (Nat → Int32)) (xr : (Nat → Int32)) (xe : (Nat → Int32)) (xn : Int32) (xo : Int32) (xp : Int32) (xu : (Nat → Int32)) (xd : Int32) {H : Heap} {locs : List Loc} {ls : Array Slot} (hI : Inv yn yk yl yt yu ye yc yh xs xi xh xl xr xe xn xo) (hH : Hs D (fun q : Nat => s.heap.size ≤ q) s.heap (wMn cI cJ cQ ad yn ym yk yl yt yd yu ye yv yo y0 y1 yc yh ++ wMd cI bd xs xm xi xw xh xl xr xe xn xo xp xu xd) H locs) (hl : lv_has ls 4 [(0, .ref b), (1, .ref (ad 0)), (2, .ref (bd 0)), (3, .int (nI j))]) (NEXT : ∀ (yn : LandT) (ym : LandT) (yk : LandT) (yl : (Nat → Int32)) (yt : Int32) (yd : Int32) (yu : (Nat → Int32)) (ye : (Nat → Int32)) (yv : (Nat → Int32)) (yo : (Nat → Int64)) (y0 : (Nat → Int32)) (y1 : (Nat → Int32)) (yc : Int32) (yh : Int32) (xs : (Nat → Int32)) (xm : (Nat → Int32)) (xi : (Nat → Int32)) (xw : (Nat → Int32)) (xh : Int32) (xl : (Nat → Int32)) (xr : (Nat → Int32)) (xe : (Nat → Int32)) (xn : Int32) (xo : Int32) (xp : Int32) (xu : (Nat → Int32)) (xd : Int32) (H : Heap) (locs : List Loc) (ls : Array Slot), Inv yn yk yl yt yu ye yc yh xs xi xh xl xr xe xn xo → Hs D (fun q : Nat => s.heap.size ≤ q) s.heap (wMn cI cJ cQ ad yn ym yk yl yt yd yu ye yv yo y0 y1 yc yh ++ wMd cI bd xs xm xi xw xh xl xr xe xn xo xp xu xd) H locs → lv_has ls 4 [(0, .ref b), (1, .ref (ad 0)), (2, .ref (bd 0)), (3, .int (nI j))] → W p l e room_1 s m #[Value.ref b] below meth c H locs 44 733 (lw_Z below #[Value.ref b] s) (F0 m 1336 ls [])) : W p l e room_1 s m #[Value.ref b] below meth c H locs 44 733 (lw_Z below #[Value.ref b] s) (F0 m 1218 ls []) := by
  obtain ⟨hx, hb, hml, hown, hts⟩ := id F
  have hA : ∀ q : Nat, s.heap.size ≤ q → (fun q : Nat => s.heap.size ≤ q) q := fun _ h => h
  have hbA : ¬ (fun q : Nat => s.heap.size ≤ q) b := Nat.not_le.mpr hbl
  obtain ⟨ra, rb, h1, h2, hr, hI⟩ := st_judge yn ym yk yl yt yd yu ye yv yo y0 y1 yc yh xs xm xi xw xh xl xr xe xn xo xp xu xd hI
  refine lv_aload_n hx hb dL_law_1218 rfl (lv_at hl 1 rfl) ?_
  refine k_ViL F hK hH hA hl.1 ⟨(Nat.le_of_ble_eq_true rfl), (Nat.le_of_ble_eq_true rfl)⟩ [] [] (ctX3_judge ad yn ym yk yl yt yd yu ye yv yo y0 y1 yc yh h1) (cwV 0 F.2.2.2.2 gL_law_X3_judge rfl rfl rfl hdVX3_judge ⟨(Nat.le_of_ble_eq_true rfl), (Nat.le_of_ble_eq_true rfl)⟩) dL_law_1219 rfl rfl rfl rfl rfl (Nat.le_of_ble_eq_true rfl) rfl (fun H locs hH => ?_)
  have hH : Hs D (fun q : Nat => s.heap.size ≤ q) s.heap (wMn cI cJ cQ ad yn ym yk yl yt yd yu ye yv yo y0 y1 ra.2 yh ++ wMd cI bd xs xm xi xw xh xl xr xe xn xo xp xu xd) H locs := hH
  refine lv_aload_n hx hb dL_law_1222 rfl (lv_at hl 2 rfl) ?_
  refine k_ViR F hK hH hA hl.1 ⟨(Nat.le_of_ble_eq_true rfl), (Nat.le_of_ble_eq_true rfl)⟩ [] [.int ra.1] (ctX4_judge bd xs xm xi xw xh xl xr xe xn xo xp xu xd h2) (cwV 0 F.2.2.2.2 gL_law_X4_judge rfl rfl rfl hdVX4_judge ⟨(Nat.le_of_ble_eq_true rfl), (Nat.le_of_ble_eq_true rfl)⟩) dL_law_1223 rfl rfl rfl rfl rfl (Nat.le_of_ble_eq_true rfl) rfl (fun H locs hH => ?_)
  have hH : Hs D (fun q : Nat => s.heap.size ≤ q) s.heap (wMn cI cJ cQ ad yn ym yk yl yt yd yu ye yv yo y0 y1 ra.2 yh ++ wMd cI bd xs xm xi xw xh xl xr xe xn rb.2 xp xu xd) H locs := hH
  refine lv_icmp_eq (tgt := 1336) hx hb dL_law_1226 (by decide) (fun _ => ?_) (fun hc => ?_)
  · exact NEXT _ _ _ _ _ _ _ _ _ _ _ _ _ _ _ _ _ _ _ _ _ _ _ _ _ _ _ H locs ls hI hH hl
  · exact absurd hr hc

set_option maxHeartbeats 4000000 in
set_option maxRecDepth 100000 in
theorem law_c33 {p : Program} {l : Launch} {e : Env} {s : State} {m : MethodId} {below : List Frame} {meth : Method} {c : Code} {D : va_G} {cI cJ cQ : ClassId} {aK aV : Nat → Nat} {ad bd : Nat → Nat} {b N j : Nat} {xv : Nat → Int32} (F : CallFix p m c cL_law 4 s #[Value.ref b] wsL_law RL) (hK : KK D cI cJ cQ s) (hT : TXF aK aV (fun q : Nat => s.heap.size ≤ q) s s.heap) (hX : va_X b N xv s s.heap) (hbl : b < s.heap.size) (hN : N ≤ 3072) (hj : j + 6 ≤ N) (yn : LandT) (ym : LandT) (yk : LandT) (yl : (Nat → Int32)) (yt : Int32) (yd : Int32) (yu : (Nat → Int32)) (ye : (Nat → Int32)) (yv : (Nat → Int32)) (yo : (Nat → Int64)) (y0 : (Nat → Int32)) (y1 : (Nat → Int32)) (yc : Int32) (yh : Int32) (xs : (Nat → Int32)) (xm : (Nat → Int32)) (xi : (Nat → Int32)) (xw : (Nat → Int32)) (xh : Int32) (xl : (Nat → Int32)) (xr : (Nat → Int32)) (xe : (Nat → Int32)) (xn : Int32) (xo : Int32) (xp : Int32) (xu : (Nat → Int32)) (xd : Int32) {H : Heap} {locs : List Loc} {ls : Array Slot} (hI : Inv yn yk yl yt yu ye yc yh xs xi xh xl xr xe xn xo) (hH : Hs D (fun q : Nat => s.heap.size ≤ q) s.heap (wMn cI cJ cQ ad yn ym yk yl yt yd yu ye yv yo y0 y1 yc yh ++ wMd cI bd xs xm xi xw xh xl xr xe xn xo xp xu xd) H locs) (hl : lv_has ls 4 [(0, .ref b), (1, .ref (ad 0)), (2, .ref (bd 0)), (3, .int (nI j))]) (NEXT : ∀ (yn : LandT) (ym : LandT) (yk : LandT) (yl : (Nat → Int32)) (yt : Int32) (yd : Int32) (yu : (Nat → Int32)) (ye : (Nat → Int32)) (yv : (Nat → Int32)) (yo : (Nat → Int64)) (y0 : (Nat → Int32)) (y1 : (Nat → Int32)) (yc : Int32) (yh : Int32) (xs : (Nat → Int32)) (xm : (Nat → Int32)) (xi : (Nat → Int32)) (xw : (Nat → Int32)) (xh : Int32) (xl : (Nat → Int32)) (xr : (Nat → Int32)) (xe : (Nat → Int32)) (xn : Int32) (xo : Int32) (xp : Int32) (xu : (Nat → Int32)) (xd : Int32) (H : Heap) (locs : List Loc) (ls : Array Slot), Inv yn yk yl yt yu ye yc yh xs xi xh xl xr xe xn xo → Hs D (fun q : Nat => s.heap.size ≤ q) s.heap (wMn cI cJ cQ ad yn ym yk yl yt yd yu ye yv yo y0 y1 yc yh ++ wMd cI bd xs xm xi xw xh xl xr xe xn xo xp xu xd) H locs → lv_has ls 4 [(0, .ref b), (1, .ref (ad 0)), (2, .ref (bd 0)), (3, .int (nI j))] → W p l e room_1 s m #[Value.ref b] below meth c H locs 44 733 (lw_Z below #[Value.ref b] s) (F0 m 1336 ls [])) : W p l e room_1 s m #[Value.ref b] below meth c H locs 44 733 (lw_Z below #[Value.ref b] s) (F0 m 1231 ls []) := by
  obtain ⟨hx, hb, hml, hown, hts⟩ := id F
  have hA : ∀ q : Nat, s.heap.size ≤ q → (fun q : Nat => s.heap.size ≤ q) q := fun _ h => h
  have hbA : ¬ (fun q : Nat => s.heap.size ≤ q) b := Nat.not_le.mpr hbl
  obtain ⟨ra, rb, h1, h2, hr, hI⟩ := st_clear yn ym yk yl yt yd yu ye yv yo y0 y1 yc yh xs xm xi xw xh xl xr xe xn xo xp xu xd hI
  refine lv_aload_n hx hb dL_law_1231 rfl (lv_at hl 1 rfl) ?_
  refine k_ViL F hK hH hA hl.1 ⟨(Nat.le_of_ble_eq_true rfl), (Nat.le_of_ble_eq_true rfl)⟩ [] [] (ctX3_clear ad yn ym yk yl yt yd yu ye yv yo y0 y1 yc yh h1) (cwV 0 F.2.2.2.2 gL_law_X3_clear rfl rfl rfl hdVX3_clear ⟨(Nat.le_of_ble_eq_true rfl), (Nat.le_of_ble_eq_true rfl)⟩) dL_law_1232 rfl rfl rfl rfl rfl (Nat.le_of_ble_eq_true rfl) rfl (fun H locs hH => ?_)
  have hH : Hs D (fun q : Nat => s.heap.size ≤ q) s.heap (wMn cI cJ cQ ad yn ym yk yl yt yd yu ye yv yo y0 y1 ra.2 yh ++ wMd cI bd xs xm xi xw xh xl xr xe xn xo xp xu xd) H locs := hH
  refine lv_aload_n hx hb dL_law_1235 rfl (lv_at hl 2 rfl) ?_
  refine k_ViR F hK hH hA hl.1 ⟨(Nat.le_of_ble_eq_true rfl), (Nat.le_of_ble_eq_true rfl)⟩ [] [.int ra.1] (ctX4_clear bd xs xm xi xw xh xl xr xe xn xo xp xu xd h2) (cwV 0 F.2.2.2.2 gL_law_X4_clear rfl rfl rfl hdVX4_clear ⟨(Nat.le_of_ble_eq_true rfl), (Nat.le_of_ble_eq_true rfl)⟩) dL_law_1236 rfl rfl rfl rfl rfl (Nat.le_of_ble_eq_true rfl) rfl (fun H locs hH => ?_)
  have hH : Hs D (fun q : Nat => s.heap.size ≤ q) s.heap (wMn cI cJ cQ ad yn ym yk yl yt yd yu ye yv yo y0 y1 ra.2 yh ++ wMd cI bd xs xm xi xw xh xl xr xe xn rb.2 xp xu xd) H locs := hH
  refine lv_icmp_eq (tgt := 1336) hx hb dL_law_1239 (by decide) (fun _ => ?_) (fun hc => ?_)
  · exact NEXT _ _ _ _ _ _ _ _ _ _ _ _ _ _ _ _ _ _ _ _ _ _ _ _ _ _ _ H locs ls hI hH hl
  · exact absurd hr hc

set_option maxHeartbeats 4000000 in
set_option maxRecDepth 100000 in
theorem law_c34 {p : Program} {l : Launch} {e : Env} {s : State} {m : MethodId} {below : List Frame} {meth : Method} {c : Code} {D : va_G} {cI cJ cQ : ClassId} {aK aV : Nat → Nat} {ad bd : Nat → Nat} {b N j : Nat} {xv : Nat → Int32} (F : CallFix p m c cL_law 4 s #[Value.ref b] wsL_law RL) (hK : KK D cI cJ cQ s) (hT : TXF aK aV (fun q : Nat => s.heap.size ≤ q) s s.heap) (hX : va_X b N xv s s.heap) (hbl : b < s.heap.size) (hN : N ≤ 3072) (hj : j + 6 ≤ N) (yn : LandT) (ym : LandT) (yk : LandT) (yl : (Nat → Int32)) (yt : Int32) (yd : Int32) (yu : (Nat → Int32)) (ye : (Nat → Int32)) (yv : (Nat → Int32)) (yo : (Nat → Int64)) (y0 : (Nat → Int32)) (y1 : (Nat → Int32)) (yc : Int32) (yh : Int32) (xs : (Nat → Int32)) (xm : (Nat → Int32)) (xi : (Nat → Int32)) (xw : (Nat → Int32)) (xh : Int32) (xl : (Nat → Int32)) (xr : (Nat → Int32)) (xe : (Nat → Int32)) (xn : Int32) (xo : Int32) (xp : Int32) (xu : (Nat → Int32)) (xd : Int32) {H : Heap} {locs : List Loc} {ls : Array Slot} (hI : Inv yn yk yl yt yu ye yc yh xs xi xh xl xr xe xn xo) (hH : Hs D (fun q : Nat => s.heap.size ≤ q) s.heap (wMn cI cJ cQ ad yn ym yk yl yt yd yu ye yv yo y0 y1 yc yh ++ wMd cI bd xs xm xi xw xh xl xr xe xn xo xp xu xd) H locs) (hl : lv_has ls 4 [(0, .ref b), (1, .ref (ad 0)), (2, .ref (bd 0)), (3, .int (nI j))]) (NEXT : ∀ (yn : LandT) (ym : LandT) (yk : LandT) (yl : (Nat → Int32)) (yt : Int32) (yd : Int32) (yu : (Nat → Int32)) (ye : (Nat → Int32)) (yv : (Nat → Int32)) (yo : (Nat → Int64)) (y0 : (Nat → Int32)) (y1 : (Nat → Int32)) (yc : Int32) (yh : Int32) (xs : (Nat → Int32)) (xm : (Nat → Int32)) (xi : (Nat → Int32)) (xw : (Nat → Int32)) (xh : Int32) (xl : (Nat → Int32)) (xr : (Nat → Int32)) (xe : (Nat → Int32)) (xn : Int32) (xo : Int32) (xp : Int32) (xu : (Nat → Int32)) (xd : Int32) (H : Heap) (locs : List Loc) (ls : Array Slot), Inv yn yk yl yt yu ye yc yh xs xi xh xl xr xe xn xo → Hs D (fun q : Nat => s.heap.size ≤ q) s.heap (wMn cI cJ cQ ad yn ym yk yl yt yd yu ye yv yo y0 y1 yc yh ++ wMd cI bd xs xm xi xw xh xl xr xe xn xo xp xu xd) H locs → lv_has ls 4 [(0, .ref b), (1, .ref (ad 0)), (2, .ref (bd 0)), (3, .int (nI j))] → W p l e room_1 s m #[Value.ref b] below meth c H locs 44 733 (lw_Z below #[Value.ref b] s) (F0 m 1336 ls [])) : W p l e room_1 s m #[Value.ref b] below meth c H locs 44 733 (lw_Z below #[Value.ref b] s) (F0 m 1244 ls []) := by
  obtain ⟨hx, hb, hml, hown, hts⟩ := id F
  have hA : ∀ q : Nat, s.heap.size ≤ q → (fun q : Nat => s.heap.size ≤ q) q := fun _ h => h
  have hbA : ¬ (fun q : Nat => s.heap.size ≤ q) b := Nat.not_le.mpr hbl
  obtain ⟨ra, rb, h1, h2, hr, hI⟩ := st_lots yn ym yk yl yt yd yu ye yv yo y0 y1 yc yh xs xm xi xw xh xl xr xe xn xo xp xu xd (xv (Int32.toNatClampNeg (nI j + 1))) (xv (Int32.toNatClampNeg (nI j + 2))) (xv (Int32.toNatClampNeg (nI j + 3))) hI
  refine lv_aload_n hx hb dL_law_1244 rfl (lv_at hl 1 rfl) ?_
  refine lv_aload_n hx hb dL_law_1245 rfl (lv_at hl 0 rfl) ?_
  refine lv_iload_n hx hb dL_law_1246 rfl (lv_at hl 3 rfl) ?_
  refine lv_iconst (v := 1) hx hb dL_law_1247 (by decide) ?_
  refine lv_iadd hx hb dL_law_1248 ?_
  refine va_sld hx hb hX hbl hbA hH.2.2 (law_ix hN hj 1 (by decide)) dL_law_1249 ?_
  refine lv_aload_n hx hb dL_law_1250 rfl (lv_at hl 0 rfl) ?_
  refine lv_iload_n hx hb dL_law_1251 rfl (lv_at hl 3 rfl) ?_
  refine lv_iconst (v := 2) hx hb dL_law_1252 (by decide) ?_
  refine lv_iadd hx hb dL_law_1253 ?_
  refine va_sld hx hb hX hbl hbA hH.2.2 (law_ix hN hj 2 (by decide)) dL_law_1254 ?_
  refine lv_aload_n hx hb dL_law_1255 rfl (lv_at hl 0 rfl) ?_
  refine lv_iload_n hx hb dL_law_1256 rfl (lv_at hl 3 rfl) ?_
  refine lv_iconst (v := 3) hx hb dL_law_1257 (by decide) ?_
  refine lv_iadd hx hb dL_law_1258 ?_
  refine va_sld hx hb hX hbl hbA hH.2.2 (law_ix hN hj 3 (by decide)) dL_law_1259 ?_
  refine k_ViL F hK hH hA hl.1 ⟨(Nat.le_of_ble_eq_true rfl), (Nat.le_of_ble_eq_true rfl)⟩ [.int (xv (Int32.toNatClampNeg (nI j + 1))), .int (xv (Int32.toNatClampNeg (nI j + 2))), .int (xv (Int32.toNatClampNeg (nI j + 3)))] [] (ctX3_lots ad yn ym yk yl yt yd yu ye yv yo y0 y1 yc yh (xv (Int32.toNatClampNeg (nI j + 1))) (xv (Int32.toNatClampNeg (nI j + 2))) (xv (Int32.toNatClampNeg (nI j + 3))) h1) (cwV 3 F.2.2.2.2 gL_law_X3_lots rfl rfl rfl hdVX3_lots ⟨(Nat.le_of_ble_eq_true rfl), (Nat.le_of_ble_eq_true rfl)⟩) dL_law_1260 rfl rfl rfl rfl rfl (Nat.le_of_ble_eq_true rfl) rfl (fun H locs hH => ?_)
  have hH : Hs D (fun q : Nat => s.heap.size ≤ q) s.heap (wMn cI cJ cQ ad yn ra.2.1 yk yl yt ra.2.2.1 yu ra.2.2.2 yv yo y0 y1 yc yh ++ wMd cI bd xs xm xi xw xh xl xr xe xn xo xp xu xd) H locs := hH
  refine lv_aload_n hx hb dL_law_1263 rfl (lv_at hl 2 rfl) ?_
  refine lv_aload_n hx hb dL_law_1264 rfl (lv_at hl 0 rfl) ?_
  refine lv_iload_n hx hb dL_law_1265 rfl (lv_at hl 3 rfl) ?_
  refine lv_iconst (v := 1) hx hb dL_law_1266 (by decide) ?_
  refine lv_iadd hx hb dL_law_1267 ?_
  refine va_sld hx hb hX hbl hbA hH.2.2 (law_ix hN hj 1 (by decide)) dL_law_1268 ?_
  refine lv_aload_n hx hb dL_law_1269 rfl (lv_at hl 0 rfl) ?_
  refine lv_iload_n hx hb dL_law_1270 rfl (lv_at hl 3 rfl) ?_
  refine lv_iconst (v := 2) hx hb dL_law_1271 (by decide) ?_
  refine lv_iadd hx hb dL_law_1272 ?_
  refine va_sld hx hb hX hbl hbA hH.2.2 (law_ix hN hj 2 (by decide)) dL_law_1273 ?_
  refine lv_aload_n hx hb dL_law_1274 rfl (lv_at hl 0 rfl) ?_
  refine lv_iload_n hx hb dL_law_1275 rfl (lv_at hl 3 rfl) ?_
  refine lv_iconst (v := 3) hx hb dL_law_1276 (by decide) ?_
  refine lv_iadd hx hb dL_law_1277 ?_
  refine va_sld hx hb hX hbl hbA hH.2.2 (law_ix hN hj 3 (by decide)) dL_law_1278 ?_
  refine k_ViR F hK hH hA hl.1 ⟨(Nat.le_of_ble_eq_true rfl), (Nat.le_of_ble_eq_true rfl)⟩ [.int (xv (Int32.toNatClampNeg (nI j + 1))), .int (xv (Int32.toNatClampNeg (nI j + 2))), .int (xv (Int32.toNatClampNeg (nI j + 3)))] [.int ra.1] (ctX4_lots bd xs xm xi xw xh xl xr xe xn xo xp xu xd (xv (Int32.toNatClampNeg (nI j + 1))) (xv (Int32.toNatClampNeg (nI j + 2))) (xv (Int32.toNatClampNeg (nI j + 3))) h2) (cwV 3 F.2.2.2.2 gL_law_X4_lots rfl rfl rfl hdVX4_lots ⟨(Nat.le_of_ble_eq_true rfl), (Nat.le_of_ble_eq_true rfl)⟩) dL_law_1279 rfl rfl rfl rfl rfl (Nat.le_of_ble_eq_true rfl) rfl (fun H locs hH => ?_)
  have hH : Hs D (fun q : Nat => s.heap.size ≤ q) s.heap (wMn cI cJ cQ ad yn ra.2.1 yk yl yt ra.2.2.1 yu ra.2.2.2 yv yo y0 y1 yc yh ++ wMd cI bd xs rb.2.1 xi xw xh xl xr rb.2.2.1 xn xo xp xu rb.2.2.2) H locs := hH
  refine lv_icmp_eq (tgt := 1336) hx hb dL_law_1282 (by decide) (fun _ => ?_) (fun hc => ?_)
  · exact NEXT _ _ _ _ _ _ _ _ _ _ _ _ _ _ _ _ _ _ _ _ _ _ _ _ _ _ _ H locs ls hI hH hl
  · exact absurd hr hc

set_option maxHeartbeats 4000000 in
set_option maxRecDepth 100000 in
theorem law_c35 {p : Program} {l : Launch} {e : Env} {s : State} {m : MethodId} {below : List Frame} {meth : Method} {c : Code} {D : va_G} {cI cJ cQ : ClassId} {aK aV : Nat → Nat} {ad bd : Nat → Nat} {b N j : Nat} {xv : Nat → Int32} (F : CallFix p m c cL_law 4 s #[Value.ref b] wsL_law RL) (hK : KK D cI cJ cQ s) (hT : TXF aK aV (fun q : Nat => s.heap.size ≤ q) s s.heap) (hX : va_X b N xv s s.heap) (hbl : b < s.heap.size) (hN : N ≤ 3072) (hj : j + 6 ≤ N) (yn : LandT) (ym : LandT) (yk : LandT) (yl : (Nat → Int32)) (yt : Int32) (yd : Int32) (yu : (Nat → Int32)) (ye : (Nat → Int32)) (yv : (Nat → Int32)) (yo : (Nat → Int64)) (y0 : (Nat → Int32)) (y1 : (Nat → Int32)) (yc : Int32) (yh : Int32) (xs : (Nat → Int32)) (xm : (Nat → Int32)) (xi : (Nat → Int32)) (xw : (Nat → Int32)) (xh : Int32) (xl : (Nat → Int32)) (xr : (Nat → Int32)) (xe : (Nat → Int32)) (xn : Int32) (xo : Int32) (xp : Int32) (xu : (Nat → Int32)) (xd : Int32) {H : Heap} {locs : List Loc} {ls : Array Slot} (hI : Inv yn yk yl yt yu ye yc yh xs xi xh xl xr xe xn xo) (hH : Hs D (fun q : Nat => s.heap.size ≤ q) s.heap (wMn cI cJ cQ ad yn ym yk yl yt yd yu ye yv yo y0 y1 yc yh ++ wMd cI bd xs xm xi xw xh xl xr xe xn xo xp xu xd) H locs) (hl : lv_has ls 4 [(0, .ref b), (1, .ref (ad 0)), (2, .ref (bd 0)), (3, .int (nI j))]) (NEXT : ∀ (yn : LandT) (ym : LandT) (yk : LandT) (yl : (Nat → Int32)) (yt : Int32) (yd : Int32) (yu : (Nat → Int32)) (ye : (Nat → Int32)) (yv : (Nat → Int32)) (yo : (Nat → Int64)) (y0 : (Nat → Int32)) (y1 : (Nat → Int32)) (yc : Int32) (yh : Int32) (xs : (Nat → Int32)) (xm : (Nat → Int32)) (xi : (Nat → Int32)) (xw : (Nat → Int32)) (xh : Int32) (xl : (Nat → Int32)) (xr : (Nat → Int32)) (xe : (Nat → Int32)) (xn : Int32) (xo : Int32) (xp : Int32) (xu : (Nat → Int32)) (xd : Int32) (H : Heap) (locs : List Loc) (ls : Array Slot), Inv yn yk yl yt yu ye yc yh xs xi xh xl xr xe xn xo → Hs D (fun q : Nat => s.heap.size ≤ q) s.heap (wMn cI cJ cQ ad yn ym yk yl yt yd yu ye yv yo y0 y1 yc yh ++ wMd cI bd xs xm xi xw xh xl xr xe xn xo xp xu xd) H locs → lv_has ls 4 [(0, .ref b), (1, .ref (ad 0)), (2, .ref (bd 0)), (3, .int (nI j))] → W p l e room_1 s m #[Value.ref b] below meth c H locs 44 733 (lw_Z below #[Value.ref b] s) (F0 m 1336 ls [])) : W p l e room_1 s m #[Value.ref b] below meth c H locs 44 733 (lw_Z below #[Value.ref b] s) (F0 m 1287 ls []) := by
  obtain ⟨hx, hb, hml, hown, hts⟩ := id F
  have hA : ∀ q : Nat, s.heap.size ≤ q → (fun q : Nat => s.heap.size ≤ q) q := fun _ h => h
  have hbA : ¬ (fun q : Nat => s.heap.size ≤ q) b := Nat.not_le.mpr hbl
  obtain ⟨ra, rb, h1, h2, hr, hI⟩ := st_image yn ym yk yl yt yd yu ye yv yo y0 y1 yc yh xs xm xi xw xh xl xr xe xn xo xp xu xd hI
  refine lv_aload_n hx hb dL_law_1287 rfl (lv_at hl 1 rfl) ?_
  refine k_ViL F hK hH hA hl.1 ⟨(Nat.le_of_ble_eq_true rfl), (Nat.le_of_ble_eq_true rfl)⟩ [] [] (ctX3_image ad yn ym yk yl yt yd yu ye yv yo y0 y1 yc yh h1) (cwV 0 F.2.2.2.2 gL_law_X3_image rfl rfl rfl hdVX3_image ⟨(Nat.le_of_ble_eq_true rfl), (Nat.le_of_ble_eq_true rfl)⟩) dL_law_1288 rfl rfl rfl rfl rfl (Nat.le_of_ble_eq_true rfl) rfl (fun H locs hH => ?_)
  have hH : Hs D (fun q : Nat => s.heap.size ≤ q) s.heap (wMn cI cJ cQ ad yn ym ra.2.1 yl yt yd yu ye yv yo y0 y1 yc ra.2.2 ++ wMd cI bd xs xm xi xw xh xl xr xe xn xo xp xu xd) H locs := hH
  refine lv_aload_n hx hb dL_law_1291 rfl (lv_at hl 2 rfl) ?_
  refine k_ViR F hK hH hA hl.1 ⟨(Nat.le_of_ble_eq_true rfl), (Nat.le_of_ble_eq_true rfl)⟩ [] [.int ra.1] (ctX4_image bd xs xm xi xw xh xl xr xe xn xo xp xu xd h2) (cwV 0 F.2.2.2.2 gL_law_X4_image rfl rfl rfl hdVX4_image ⟨(Nat.le_of_ble_eq_true rfl), (Nat.le_of_ble_eq_true rfl)⟩) dL_law_1292 rfl rfl rfl rfl rfl (Nat.le_of_ble_eq_true rfl) rfl (fun H locs hH => ?_)
  have hH : Hs D (fun q : Nat => s.heap.size ≤ q) s.heap (wMn cI cJ cQ ad yn ym ra.2.1 yl yt yd yu ye yv yo y0 y1 yc ra.2.2 ++ wMd cI bd xs xm rb.2.1 xw rb.2.2 xl xr xe xn xo xp xu xd) H locs := hH
  refine lv_icmp_eq (tgt := 1336) hx hb dL_law_1295 (by decide) (fun _ => ?_) (fun hc => ?_)
  · exact NEXT _ _ _ _ _ _ _ _ _ _ _ _ _ _ _ _ _ _ _ _ _ _ _ _ _ _ _ H locs ls hI hH hl
  · exact absurd hr hc

set_option maxHeartbeats 4000000 in
set_option maxRecDepth 100000 in
theorem law_c36 {p : Program} {l : Launch} {e : Env} {s : State} {m : MethodId} {below : List Frame} {meth : Method} {c : Code} {D : va_G} {cI cJ cQ : ClassId} {aK aV : Nat → Nat} {ad bd : Nat → Nat} {b N j : Nat} {xv : Nat → Int32} (F : CallFix p m c cL_law 4 s #[Value.ref b] wsL_law RL) (hK : KK D cI cJ cQ s) (hT : TXF aK aV (fun q : Nat => s.heap.size ≤ q) s s.heap) (hX : va_X b N xv s s.heap) (hbl : b < s.heap.size) (hN : N ≤ 3072) (hj : j + 6 ≤ N) (yn : LandT) (ym : LandT) (yk : LandT) (yl : (Nat → Int32)) (yt : Int32) (yd : Int32) (yu : (Nat → Int32)) (ye : (Nat → Int32)) (yv : (Nat → Int32)) (yo : (Nat → Int64)) (y0 : (Nat → Int32)) (y1 : (Nat → Int32)) (yc : Int32) (yh : Int32) (xs : (Nat → Int32)) (xm : (Nat → Int32)) (xi : (Nat → Int32)) (xw : (Nat → Int32)) (xh : Int32) (xl : (Nat → Int32)) (xr : (Nat → Int32)) (xe : (Nat → Int32)) (xn : Int32) (xo : Int32) (xp : Int32) (xu : (Nat → Int32)) (xd : Int32) {H : Heap} {locs : List Loc} {ls : Array Slot} (hI : Inv yn yk yl yt yu ye yc yh xs xi xh xl xr xe xn xo) (hH : Hs D (fun q : Nat => s.heap.size ≤ q) s.heap (wMn cI cJ cQ ad yn ym yk yl yt yd yu ye yv yo y0 y1 yc yh ++ wMd cI bd xs xm xi xw xh xl xr xe xn xo xp xu xd) H locs) (hl : lv_has ls 4 [(0, .ref b), (1, .ref (ad 0)), (2, .ref (bd 0)), (3, .int (nI j))]) (NEXT : ∀ (yn : LandT) (ym : LandT) (yk : LandT) (yl : (Nat → Int32)) (yt : Int32) (yd : Int32) (yu : (Nat → Int32)) (ye : (Nat → Int32)) (yv : (Nat → Int32)) (yo : (Nat → Int64)) (y0 : (Nat → Int32)) (y1 : (Nat → Int32)) (yc : Int32) (yh : Int32) (xs : (Nat → Int32)) (xm : (Nat → Int32)) (xi : (Nat → Int32)) (xw : (Nat → Int32)) (xh : Int32) (xl : (Nat → Int32)) (xr : (Nat → Int32)) (xe : (Nat → Int32)) (xn : Int32) (xo : Int32) (xp : Int32) (xu : (Nat → Int32)) (xd : Int32) (H : Heap) (locs : List Loc) (ls : Array Slot), Inv yn yk yl yt yu ye yc yh xs xi xh xl xr xe xn xo → Hs D (fun q : Nat => s.heap.size ≤ q) s.heap (wMn cI cJ cQ ad yn ym yk yl yt yd yu ye yv yo y0 y1 yc yh ++ wMd cI bd xs xm xi xw xh xl xr xe xn xo xp xu xd) H locs → lv_has ls 4 [(0, .ref b), (1, .ref (ad 0)), (2, .ref (bd 0)), (3, .int (nI j))] → W p l e room_1 s m #[Value.ref b] below meth c H locs 44 733 (lw_Z below #[Value.ref b] s) (F0 m 1336 ls [])) : W p l e room_1 s m #[Value.ref b] below meth c H locs 44 733 (lw_Z below #[Value.ref b] s) (F0 m 1300 ls []) := by
  obtain ⟨hx, hb, hml, hown, hts⟩ := id F
  have hA : ∀ q : Nat, s.heap.size ≤ q → (fun q : Nat => s.heap.size ≤ q) q := fun _ h => h
  have hbA : ¬ (fun q : Nat => s.heap.size ≤ q) b := Nat.not_le.mpr hbl
  obtain ⟨ra, rb, h1, h2, hr, hI⟩ := st_on yn ym yk yl yt yd yu ye yv yo y0 y1 yc yh xs xm xi xw xh xl xr xe xn xo xp xu xd hI
  refine lv_aload_n hx hb dL_law_1300 rfl (lv_at hl 1 rfl) ?_
  refine k_ViL F hK hH hA hl.1 ⟨(Nat.le_of_ble_eq_true rfl), (Nat.le_of_ble_eq_true rfl)⟩ [] [] (ctX3_on ad yn ym yk yl yt yd yu ye yv yo y0 y1 yc yh h1) (cwV 0 F.2.2.2.2 gL_law_X3_on rfl rfl rfl hdVX3_on ⟨(Nat.le_of_ble_eq_true rfl), (Nat.le_of_ble_eq_true rfl)⟩) dL_law_1301 rfl rfl rfl rfl rfl (Nat.le_of_ble_eq_true rfl) rfl (fun H locs hH => ?_)
  have hH : Hs D (fun q : Nat => s.heap.size ≤ q) s.heap (wMn cI cJ cQ ad ra.2.1 ym yk yl yt yd yu ra.2.2 yv yo y0 y1 yc yh ++ wMd cI bd xs xm xi xw xh xl xr xe xn xo xp xu xd) H locs := hH
  refine lv_aload_n hx hb dL_law_1304 rfl (lv_at hl 2 rfl) ?_
  refine k_ViR F hK hH hA hl.1 ⟨(Nat.le_of_ble_eq_true rfl), (Nat.le_of_ble_eq_true rfl)⟩ [] [.int ra.1] (ctX4_on bd xs xm xi xw xh xl xr xe xn xo xp xu xd h2) (cwV 0 F.2.2.2.2 gL_law_X4_on rfl rfl rfl hdVX4_on ⟨(Nat.le_of_ble_eq_true rfl), (Nat.le_of_ble_eq_true rfl)⟩) dL_law_1305 rfl rfl rfl rfl rfl (Nat.le_of_ble_eq_true rfl) rfl (fun H locs hH => ?_)
  have hH : Hs D (fun q : Nat => s.heap.size ≤ q) s.heap (wMn cI cJ cQ ad ra.2.1 ym yk yl yt yd yu ra.2.2 yv yo y0 y1 yc yh ++ wMd cI bd rb.2.1 xm xi xw xh xl xr rb.2.2 xn xo xp xu xd) H locs := hH
  refine lv_icmp_eq (tgt := 1336) hx hb dL_law_1308 (by decide) (fun _ => ?_) (fun hc => ?_)
  · exact NEXT _ _ _ _ _ _ _ _ _ _ _ _ _ _ _ _ _ _ _ _ _ _ _ _ _ _ _ H locs ls hI hH hl
  · exact absurd hr hc

set_option maxHeartbeats 4000000 in
set_option maxRecDepth 100000 in
theorem law_c37 {p : Program} {l : Launch} {e : Env} {s : State} {m : MethodId} {below : List Frame} {meth : Method} {c : Code} {D : va_G} {cI cJ cQ : ClassId} {aK aV : Nat → Nat} {ad bd : Nat → Nat} {b N j : Nat} {xv : Nat → Int32} (F : CallFix p m c cL_law 4 s #[Value.ref b] wsL_law RL) (hK : KK D cI cJ cQ s) (hT : TXF aK aV (fun q : Nat => s.heap.size ≤ q) s s.heap) (hX : va_X b N xv s s.heap) (hbl : b < s.heap.size) (hN : N ≤ 3072) (hj : j + 6 ≤ N) (yn : LandT) (ym : LandT) (yk : LandT) (yl : (Nat → Int32)) (yt : Int32) (yd : Int32) (yu : (Nat → Int32)) (ye : (Nat → Int32)) (yv : (Nat → Int32)) (yo : (Nat → Int64)) (y0 : (Nat → Int32)) (y1 : (Nat → Int32)) (yc : Int32) (yh : Int32) (xs : (Nat → Int32)) (xm : (Nat → Int32)) (xi : (Nat → Int32)) (xw : (Nat → Int32)) (xh : Int32) (xl : (Nat → Int32)) (xr : (Nat → Int32)) (xe : (Nat → Int32)) (xn : Int32) (xo : Int32) (xp : Int32) (xu : (Nat → Int32)) (xd : Int32) {H : Heap} {locs : List Loc} {ls : Array Slot} (hI : Inv yn yk yl yt yu ye yc yh xs xi xh xl xr xe xn xo) (hH : Hs D (fun q : Nat => s.heap.size ≤ q) s.heap (wMn cI cJ cQ ad yn ym yk yl yt yd yu ye yv yo y0 y1 yc yh ++ wMd cI bd xs xm xi xw xh xl xr xe xn xo xp xu xd) H locs) (hl : lv_has ls 4 [(0, .ref b), (1, .ref (ad 0)), (2, .ref (bd 0)), (3, .int (nI j))]) (NEXT : ∀ (yn : LandT) (ym : LandT) (yk : LandT) (yl : (Nat → Int32)) (yt : Int32) (yd : Int32) (yu : (Nat → Int32)) (ye : (Nat → Int32)) (yv : (Nat → Int32)) (yo : (Nat → Int64)) (y0 : (Nat → Int32)) (y1 : (Nat → Int32)) (yc : Int32) (yh : Int32) (xs : (Nat → Int32)) (xm : (Nat → Int32)) (xi : (Nat → Int32)) (xw : (Nat → Int32)) (xh : Int32) (xl : (Nat → Int32)) (xr : (Nat → Int32)) (xe : (Nat → Int32)) (xn : Int32) (xo : Int32) (xp : Int32) (xu : (Nat → Int32)) (xd : Int32) (H : Heap) (locs : List Loc) (ls : Array Slot), Inv yn yk yl yt yu ye yc yh xs xi xh xl xr xe xn xo → Hs D (fun q : Nat => s.heap.size ≤ q) s.heap (wMn cI cJ cQ ad yn ym yk yl yt yd yu ye yv yo y0 y1 yc yh ++ wMd cI bd xs xm xi xw xh xl xr xe xn xo xp xu xd) H locs → lv_has ls 4 [(0, .ref b), (1, .ref (ad 0)), (2, .ref (bd 0)), (3, .int (nI j))] → W p l e room_1 s m #[Value.ref b] below meth c H locs 44 733 (lw_Z below #[Value.ref b] s) (F0 m 1336 ls [])) : W p l e room_1 s m #[Value.ref b] below meth c H locs 44 733 (lw_Z below #[Value.ref b] s) (F0 m 1313 ls []) := by
  obtain ⟨hx, hb, hml, hown, hts⟩ := id F
  have hA : ∀ q : Nat, s.heap.size ≤ q → (fun q : Nat => s.heap.size ≤ q) q := fun _ h => h
  have hbA : ¬ (fun q : Nat => s.heap.size ≤ q) b := Nat.not_le.mpr hbl
  obtain ⟨ra, rb, h1, h2, hr, hI⟩ := st_count yn ym yk yl yt yd yu ye yv yo y0 y1 yc yh xs xm xi xw xh xl xr xe xn xo xp xu xd (xv (Int32.toNatClampNeg (nI j + 1))) hI
  refine lv_aload_n hx hb dL_law_1313 rfl (lv_at hl 1 rfl) ?_
  refine lv_aload_n hx hb dL_law_1314 rfl (lv_at hl 0 rfl) ?_
  refine lv_iload_n hx hb dL_law_1315 rfl (lv_at hl 3 rfl) ?_
  refine lv_iconst (v := 1) hx hb dL_law_1316 (by decide) ?_
  refine lv_iadd hx hb dL_law_1317 ?_
  refine va_sld hx hb hX hbl hbA hH.2.2 (law_ix hN hj 1 (by decide)) dL_law_1318 ?_
  refine k_ViL F hK hH hA hl.1 ⟨(Nat.le_of_ble_eq_true rfl), (Nat.le_of_ble_eq_true rfl)⟩ [.int (xv (Int32.toNatClampNeg (nI j + 1)))] [] (ctX3_count ad yn ym yk yl yt yd yu ye yv yo y0 y1 yc yh (xv (Int32.toNatClampNeg (nI j + 1))) h1) (cwV 1 F.2.2.2.2 gL_law_X3_count rfl rfl rfl hdVX3_count ⟨(Nat.le_of_ble_eq_true rfl), (Nat.le_of_ble_eq_true rfl)⟩) dL_law_1319 rfl rfl rfl rfl rfl (Nat.le_of_ble_eq_true rfl) rfl (fun H locs hH => ?_)
  have hH : Hs D (fun q : Nat => s.heap.size ≤ q) s.heap (wMn cI cJ cQ ad yn ym yk yl yt yd yu ye yv yo y0 y1 yc yh ++ wMd cI bd xs xm xi xw xh xl xr xe xn xo xp xu xd) H locs := hH
  refine lv_aload_n hx hb dL_law_1322 rfl (lv_at hl 2 rfl) ?_
  refine lv_aload_n hx hb dL_law_1323 rfl (lv_at hl 0 rfl) ?_
  refine lv_iload_n hx hb dL_law_1324 rfl (lv_at hl 3 rfl) ?_
  refine lv_iconst (v := 1) hx hb dL_law_1325 (by decide) ?_
  refine lv_iadd hx hb dL_law_1326 ?_
  refine va_sld hx hb hX hbl hbA hH.2.2 (law_ix hN hj 1 (by decide)) dL_law_1327 ?_
  refine k_ViR F hK hH hA hl.1 ⟨(Nat.le_of_ble_eq_true rfl), (Nat.le_of_ble_eq_true rfl)⟩ [.int (xv (Int32.toNatClampNeg (nI j + 1)))] [.int ra] (ctX4_count bd xs xm xi xw xh xl xr xe xn xo xp xu xd (xv (Int32.toNatClampNeg (nI j + 1))) h2) (cwV 1 F.2.2.2.2 gL_law_X4_count rfl rfl rfl hdVX4_count ⟨(Nat.le_of_ble_eq_true rfl), (Nat.le_of_ble_eq_true rfl)⟩) dL_law_1328 rfl rfl rfl rfl rfl (Nat.le_of_ble_eq_true rfl) rfl (fun H locs hH => ?_)
  have hH : Hs D (fun q : Nat => s.heap.size ≤ q) s.heap (wMn cI cJ cQ ad yn ym yk yl yt yd yu ye yv yo y0 y1 yc yh ++ wMd cI bd xs xm xi xw xh xl xr xe xn xo xp xu xd) H locs := hH
  refine lv_icmp_eq (tgt := 1336) hx hb dL_law_1331 (by decide) (fun _ => ?_) (fun hc => ?_)
  · exact NEXT _ _ _ _ _ _ _ _ _ _ _ _ _ _ _ _ _ _ _ _ _ _ _ _ _ _ _ H locs ls hI hH hl
  · exact absurd hr hc

