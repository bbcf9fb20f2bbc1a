/-! ===== heaping, looking ===== -/
theorem mxH_congr {h h' : Nat → Nat} : ∀ c, (∀ d, d < c → h d = h' d) → mxH h c = mxH h' c
  | 0, _ => rfl
  | c + 1, q => by
    show max (mxH h c) (h c) = max (mxH h' c) (h' c)
    rw [mxH_congr c (fun d hd => q d (by omega)), q c (by omega)]
theorem rdg_s {h : Nat → Nat} (hh : ∀ c, h c ≤ 9) (d : Nat) : imax (rdg h d) (nI (h d)) = rdg h (d + 1) := by
  have h1 := mxH_le hh d
  have h2 := hh d
  unfold rdg
  rw [if_neg (show ¬ d + 1 = 0 by omega)]
  by_cases e : d = 0
  · subst e
    rw [if_pos rfl]
    show imax (-1) (nI (h 0)) = nI (max 0 (h 0))
    unfold imax
    rw [if_pos (n_m1 (by omega)), Nat.max_eq_right (Nat.zero_le _)]
  · rw [if_neg e, n_max (by omega) (by omega)]
    rfl
theorem gx_setHeight {g : LandT} {L : LdN} (hG : GR g L) (hV : LdV L) {c v : Nat} (hc : c < 16) (hv : v ≤ 9) : ∃ g', fX0_setHeight (nI c) (nI v) g = some g' ∧ GR g' (sH L c v) := by
  have hV' := lv_sH (k := c) hV hv
  have hh : ∀ d, d < 16 → upd (gH g) c (nI v) d = nI (eH (sH L c v) d) := by
    intro d hd
    show upd (gH g) c (nI v) d = nI (if d = c then v else eH L d)
    by_cases e : d = c
    · rw [e, if_pos rfl, pk_us]
    · rw [if_neg e, pk_un e, hG.1 d hd]
  unfold fX0_setHeight
  rw [if_ob hc (by omega), cl (by omega), nI_1]
  obtain ⟨g', h1, h2⟩ := lp_rel (body := bX0_setHeight_11) (s0 := (nI (c + 1), (upd (gH g) c (nI v), gR g, gK g, gF g, gP g, gV g, gQ g, gN g, gD g, gE g, gT g))) (fun i s => s.1 = nI (c + 1 + i) ∧ ∃ R, s.2 = (upd (gH g) c (nI v), R, gK g, gF g, gP g, gV g, gQ g, gN g, gD g, gE g, gT g) ∧ ∀ d, d ≤ c + i → d < 16 → R d = rdg (eH (sH L c v)) d) (fun g' => ∃ R, g' = (upd (gH g) c (nI v), R, gK g, gF g, gP g, gV g, gQ g, gN g, gD g, gE g, gT g) ∧ ∀ d, d < 16 → R d = rdg (eH (sH L c v)) d) (15 - c) (by
    rintro i ⟨s1, s2⟩ hi ⟨e1, R, e2, hR⟩
    dsimp only at e1 e2
    subst e1; subst e2
    dsimp only [bX0_setHeight_11]
    rw [if_len (u := 16) (a := 16) rfl rfl (by omega) (by omega), if_neg (by omega), show nI (c + 1 + i) - 1 = nI (c + i) by rw [show c + 1 + i = (c + i) + 1 by omega]; exact pk_sub (b := 1) (by omega), if_ob (show c + i < 16 by omega) (by omega), if_ob (show c + i < 16 by omega) (by omega), if_ob (show c + 1 + i < 16 by omega) (by omega), cl (by omega), cl (by omega), nI_1]
    refine ⟨_, rfl, by rw [show c + 1 + (i + 1) = c + 1 + i + 1 by omega], _, rfl, ?_⟩
    intro d hd hd2
    by_cases e : d = c + 1 + i
    · subst e
      rw [pk_us]
      show imax (R (c + i)) (upd (gH g) c (nI v) (c + i)) = _
      rw [hR (c + i) (by omega) (by omega), hh (c + i) (by omega), rdg_s hV'.1, show c + 1 + i = c + i + 1 by omega]
    · rw [pk_un e]
      exact hR d (by omega) hd2) (by
    rintro ⟨s1, s2⟩ ⟨e1, R, e2, hR⟩
    dsimp only at e1 e2
    subst e1; subst e2
    dsimp only [bX0_setHeight_11]
    rw [if_len (u := 16) (a := 16) rfl rfl (by omega) (by omega), if_pos (by omega)]
    exact ⟨_, rfl, R, rfl, fun d hd => hR d (by omega) hd⟩) (by omega) ⟨rfl, gR g, rfl, fun d hd hd2 => by
      rw [hG.2.1 d hd2]
      unfold rdg
      by_cases e : d = 0
      · rw [if_pos e, if_pos e]
      · rw [if_neg e, if_neg e, mxH_congr d (h := eH L) (h' := eH (sH L c v)) (fun e he => by
          show eH L e = if e = c then v else eH L e
          rw [if_neg (by omega)])]⟩
  obtain ⟨R, rfl, hR⟩ := h2
  refine ⟨(upd (gH g) c (nI v), R, gK g, gF g, gP g, gV g, gQ g, gN g, gD g, gE g, gT g), by rw [h1]; rfl, hh, hR, hG.2.2⟩
theorem bx_far {g : LandT} {r : Nat → Int32} {L : LdN} (hG : GR g L) (hR : RR r L) (hV : LdV L) {b : Nat} (hb : b < 10) : ∃ x, fX0_farthestIn (nI (sght L b)) g = some x ∧ fX4_farthestSeen (nI b) r = some x := by
  have hN := hV.2.2.2.2.2.2.1
  have hs := sght_lt hV b
  unfold fX0_farthestIn fX4_farthestSeen
  rw [rx_sight hR hV (by omega)]
  obtain ⟨x, y, h6, h7, h8⟩ := lp_sim (bA := bX0_farthestIn_8 (nI (sght L b)) g) (bB := bX4_farthestSeen_15 r (nI (sght L b))) (a := (-9, -1, 0)) (b := (-9, 0)) (fun i s s' => s.2.2 = nI i ∧ s'.2 = nI i ∧ ((s.1 = -9 ∧ s.2.1 = -1 ∧ s'.1 = -9) ∨ ∃ d, d < i ∧ s.1 = nI d ∧ s.2.1 = nI (eC L d) ∧ s'.1 = nI d)) (fun x y => x = y) (eN L) (by omega) (by
    rintro i ⟨s1, s2, s3⟩ ⟨z1, z2⟩ hi ⟨e1, e2, e3⟩
    dsimp only at e1 e2 e3
    subst e1; subst e2
    dsimp only [bX0_farthestIn_8, bX4_farthestSeen_15]
    rw [hG.2.2.2.2.2.2.2.1, cl_0, hR.1, if_len rfl rfl (by omega) (by omega), if_len rfl rfl (by omega) (by omega)]
    by_cases h : eN L ≤ i
    · rw [if_pos h, if_pos h]
      refine Or.inr ⟨_, _, rfl, rfl, ?_⟩
      rcases e3 with ⟨rfl, -, rfl⟩ | ⟨d, -, rfl, -, rfl⟩ <;> rfl
    · refine Or.inl ⟨by omega, ?_⟩
      have hC := hV.2.2.2.1 i
      rw [if_neg h, if_neg h, has_eq (by omega) (by omega), of_2]
      simp only [Option.bind_some, i_b0, nI_1]
      by_cases hbt : (sght L b).testBit i = true
      · rw [if_pos ((n_bit (by omega) (by omega)).mpr hbt), if_pos hbt, if_ob (show i < 7 by omega) (by omega), if_ob (show i < 7 by omega) (by omega), if_ob (show 34 + 3 * i < 53 by omega) (by omega), cl (by omega), cl (by omega), hG.2.2.2.2.1 i (by omega), hR.2.2.2.2.2.2.2.2.2 i (by omega)]
        rcases e3 with ⟨rfl, rfl, rfl⟩ | ⟨d, hd, rfl, rfl, rfl⟩
        · rw [if_neg (Int32.not_le.mpr (n_m1 (by omega))), if_pos (show (-9 : Int32) < 0 by decide)]
          exact ⟨_, _, rfl, rfl, rfl, rfl, Or.inr ⟨i, by omega, rfl, rfl, rfl⟩⟩
        · have hC2 := hV.2.2.2.1 d
          rw [if_neg (show ¬ nI d < 0 from fun q => by have := (n_lt (b := 0) (by omega) (by omega)).mp q; omega), of_2]
          simp only [Option.bind_some]
          rw [if_ob (show 34 + 3 * d < 53 by omega) (by omega), cl (by omega), hR.2.2.2.2.2.2.2.2.2 d (by omega)]
          by_cases h3 : nI (eC L i) ≤ nI (eC L d)
          · rw [if_pos h3, if_pos h3]
            exact ⟨_, _, rfl, rfl, rfl, rfl, Or.inr ⟨d, by omega, rfl, rfl, rfl⟩⟩
          · rw [if_neg h3, if_neg h3]
            exact ⟨_, _, rfl, rfl, rfl, rfl, Or.inr ⟨i, by omega, rfl, rfl, rfl⟩⟩
      · rw [if_neg (fun q => hbt ((n_bit (by omega) (by omega)).mp q)), if_neg hbt]
        refine ⟨_, _, rfl, rfl, rfl, rfl, ?_⟩
        rcases e3 with e3 | ⟨d, hd, e3⟩
        · exact Or.inl e3
        · exact Or.inr ⟨d, by omega, e3⟩) ⟨rfl, rfl, Or.inl ⟨rfl, rfl, rfl⟩⟩
  simp only [Option.bind_some]
  rw [h6, h7, h8]
  exact ⟨_, rfl, rfl⟩
theorem bx_blind {g : LandT} {r : Nat → Int32} {L : LdN} (hG : GR g L) (hR : RR r L) (hV : LdV L) {b : Nat} (hb : b < 10) : ∃ x, fX0_blindFrom (nI b) g = some x ∧ fX4_blind (nI b) r = some x := by
  unfold fX0_blindFrom fX4_blind
  obtain ⟨x, y, h6, h7, h8⟩ := lp_sim (bA := bX0_blindFrom_4 (nI b) g) (bB := bX4_blind_4 (nI b) r) (a := (0, 0)) (b := (0, 0)) (fun i s s' => s = s' ∧ s.2 = nI i) (fun x y => x = y) 16 (by omega) (by
    rintro i ⟨s1, s2⟩ s' hi ⟨rfl, e2⟩
    dsimp only at e2
    subst e2
    have hH := hV.1 i
    dsimp only [bX0_blindFrom_4, bX4_blind_4]
    rw [if_len (u := 16) (a := 16) rfl rfl (by omega) (by omega), if_len (u := 16) (a := 16) rfl rfl (by omega) (by omega)]
    by_cases h : 16 ≤ i
    · rw [if_pos h, if_pos h]
      exact Or.inr ⟨_, _, rfl, rfl, rfl⟩
    · refine Or.inl ⟨by omega, ?_⟩
      rw [if_neg h, if_neg h, if_ob (show i < 16 by omega) (by omega), n4, if_ob (show 4 + i < 53 by omega) (by omega), cl (by omega), cl (by omega), hG.1 i (by omega), hR.2.2.2.2.1 i (by omega), nI_1, gx_in hG hV (by omega) (by omega) (by omega), rx_clear hR hV (by omega) (by omega) (by omega)]
      simp only [Option.bind_some, i_b0, nI_1]
      by_cases h2 : clrB L b i (eH L i + 1) = true
      · rw [if_pos h2, if_pos h2]
        exact ⟨_, _, rfl, rfl, by rw [Int32.or_zero], rfl⟩
      · rw [if_neg h2, if_neg h2]
        exact ⟨_, _, rfl, rfl, rfl, rfl⟩) ⟨rfl, rfl⟩
  rw [h6, h7, h8]
  exact ⟨_, rfl, rfl⟩
theorem gx_then {g : LandT} {L : LdN} (hG : GR g L) (hV : LdV L) {n : Nat} (hn : n ≤ 60) (hT : eT L ≤ 999) : ∃ g', (∀ m, fX3_inMindBehind (nI n) g m = some g') ∧ GR g' (hrsL L n) := by
  obtain ⟨g', q1, q2⟩ := gx_pass hG hV (n := n) (by omega) (by omega)
  refine ⟨g', fun m => ?_, q2⟩
  unfold fX3_inMindBehind fX3_inMind fX0_copyFrom
  simp only [Option.bind_some, q1]
theorem rx_then {r r2 : Nat → Int32} {L : LdN} (hR : RR r L) (hV : LdV L) {n : Nat} (hn : n ≤ 60) (hT : eT L ≤ 999) : ∃ r', fX4_takes (nI n) r r2 = some r' ∧ RR r' (hrsL L n) := by
  obtain ⟨r1, q1, hR1⟩ := rx_copy (r2 := r2) hR
  obtain ⟨r', q3, q4⟩ := rx_hoursOn hR1 hV (n := n) (by omega) (by omega)
  refine ⟨r', ?_, q4⟩
  unfold fX4_takes
  simp only [Option.bind_some, q1, q3]
theorem rx_agree {r : Nat → Int32} {L : LdN} (hR : RR r L) (hV : LdV L) : (fX4_doAgree r = some 1 ∧ ∀ c, c < 10 → vrd L c = vrd L 0) ∨ (fX4_doAgree r = some 0 ∧ ¬ ∀ c, c < 10 → vrd L c = vrd L 0) := by
  have l1 := vr_le hV 0
  have l2 := brs_lt L (vrd L 0)
  have l3 := bitsN_le (brs L (vrd L 0)) 16
  unfold fX4_doAgree
  rw [show fX4_verdictIn 0 r = some (nI (vrd L 0)) from rx_verd hR hV (b := 0) (by omega)]
  simp only [Option.bind_some]
  rw [rx_brs hR hV (by omega)]
  simp only [Option.bind_some]
  rw [bits_eq (by omega)]
  simp only [Option.bind_some]
  rw [if_eqn (v := 10) (k := 10) rfl (by omega) (by omega)]
  by_cases h : ∀ c, c < 10 → vrd L c = vrd L 0
  · rw [if_pos ((ten_iff L _).mpr h)]
    exact Or.inl ⟨rfl, h⟩
  · rw [if_neg (fun q => h ((ten_iff L _).mp q))]
    exact Or.inr ⟨rfl, h⟩
/-! ===== the steps: hours, sights ===== -/
set_option maxHeartbeats 2000000 in
theorem st_heaps (yn : LandT) (ym : LandT) (yk : LandT) (yl : (Nat → Int32)) (yt : Int32) (yd : Int32) (yu : (Nat → Int32)) (ye : (Nat → Int32)) (yv : (Nat → Int32)) (yo : (Nat → Int64)) (y0 : (Nat → Int32)) (y1 : (Nat → Int32)) (yc : Int32) (yh : Int32) (xs : (Nat → Int32)) (xm : (Nat → Int32)) (xi : (Nat → Int32)) (xw : (Nat → Int32)) (xh : Int32) (xl : (Nat → Int32)) (xr : (Nat → Int32)) (xe : (Nat → Int32)) (xn : Int32) (xo : Int32) (xp : Int32) (xu : (Nat → Int32)) (xd : Int32) (v1 : Int32) (v2 : Int32) (hI : Inv yn yk yl yt yu ye yc yh xs xi xh xl xr xe xn xo) : ∃ (ra : Int32 × LandT × (Nat → Int32)) (rb : Int32 × (Nat → Int32) × (Nat → Int32)), fX3_heaps v1 v2 yn ye = some ra ∧ fX4_heaps v1 v2 xs xe = some rb ∧ ra.1 = rb.1 ∧ Inv ra.2.1 yk yl yt yu ra.2.2 yc yh rb.2.1 xi xh xl xr rb.2.2 xn xo := by
  obtain ⟨⟨L, hS, hG, hR⟩, h2, h3, h4, h5⟩ := id hI
  have hV := hS.1
  have hT := hS.2
  have hN := hV.2.2.2.2.2.2.1
  unfold fX3_heaps fX4_heaps
  rcases cs_cell v1 with ⟨ea0, eb0⟩ | ⟨a, ha, rfl, ea0, eb0⟩
  · obtain ⟨u, w, q1, q2, q3⟩ := rf h5 (c := -1) (k := 1) (by omega) rfl
    simp only [ea0, eb0, Option.bind_some, if_true, i_n1, i_m1, i_m2, i_m4, i_m6]
    rw [q1, q2]
    exact ⟨_, _, rfl, rfl, rfl, inv_ref hI q3⟩
  rcases cs_rng v2 (b := 9) (by omega) with ⟨c, k', hk', hc, hc0, ea1, eb1, ec1⟩ | ⟨v, hv, rfl, ea1, eb1⟩
  · obtain ⟨u, w, q1, q2, q3⟩ := rf h5 (c := c) (k := k') hk' hc
    simp only [ea0, eb0, show fX3_isWithin v2 0 9 = some 0 from ea1, show fX4_wrongBy v2 0 9 = some c from eb1, ec1, Option.bind_some, if_true, i_n1, i_m1, i_m2, i_m4, i_m6, if_neg hc0]
    rw [q1, q2]
    exact ⟨_, _, rfl, rfl, rfl, inv_ref hI q3⟩
  obtain ⟨g', q1, q2⟩ := gx_setHeight hG hV ha hv
  simp only [ea0, eb0, show fX3_isWithin (nI v) 0 9 = some 1 from ea1, show fX4_wrongBy (nI v) 0 9 = some 0 from eb1, Option.bind_some, if_true, i_n1, i_m1, i_m2, i_m4, i_m6, q1]
  simp (disch := omega) only [fX4_sets, Option.bind_some, if_ob, cl, n4]
  exact ⟨_, _, rfl, rfl, (hG.1 a ha).trans (hR.2.2.2.2.1 a ha).symm, inv_land hI ⟨lv_sH hV hv, hS.2⟩ q2 (rr_sH hR ha)⟩
set_option maxHeartbeats 2000000 in
theorem st_hides (yn : LandT) (ym : LandT) (yk : LandT) (yl : (Nat → Int32)) (yt : Int32) (yd : Int32) (yu : (Nat → Int32)) (ye : (Nat → Int32)) (yv : (Nat → Int32)) (yo : (Nat → Int64)) (y0 : (Nat → Int32)) (y1 : (Nat → Int32)) (yc : Int32) (yh : Int32) (xs : (Nat → Int32)) (xm : (Nat → Int32)) (xi : (Nat → Int32)) (xw : (Nat → Int32)) (xh : Int32) (xl : (Nat → Int32)) (xr : (Nat → Int32)) (xe : (Nat → Int32)) (xn : Int32) (xo : Int32) (xp : Int32) (xu : (Nat → Int32)) (xd : Int32) (v1 : Int32) (hI : Inv yn yk yl yt yu ye yc yh xs xi xh xl xr xe xn xo) : ∃ (ra : Int32 × LandT × (Nat → Int32)) (rb : Int32 × (Nat → Int32) × (Nat → Int32)), fX3_hides v1 yn ye = some ra ∧ fX4_hides v1 xs xe = some rb ∧ ra.1 = rb.1 ∧ Inv ra.2.1 yk yl yt yu ra.2.2 yc yh rb.2.1 xi xh xl xr rb.2.2 xn xo := by
  obtain ⟨⟨L, hS, hG, hR⟩, h2, h3, h4, h5⟩ := id hI
  have hV := hS.1
  have hT := hS.2
  have hN := hV.2.2.2.2.2.2.1
  have hD := hV.2.2.2.2.2.2.2.1
  unfold fX3_hides fX4_hides fX0_turnHidden fX0_isHidden
  rcases cs_thing hG hR hN v1 with ⟨ea0, eb0⟩ | ⟨t, ht, rfl, ea0, eb0⟩
  · obtain ⟨u, w, q1, q2, q3⟩ := rf h5 (c := -1) (k := 1) (by omega) rfl
    simp only [ea0, eb0, Option.bind_some, if_true, i_n1, i_m1, i_m2, i_m4, i_m6]
    rw [q1, q2]
    exact ⟨_, _, rfl, rfl, rfl, inv_ref hI q3⟩
  have hx : eD L ^^^ 2 ^ t < 2 ^ 7 := Nat.xor_lt_two_pow hD (Nat.pow_lt_pow_right (by omega) (by omega))
  have q2 := gg_sD (v := eD L ^^^ 2 ^ t) hG
  simp only [ea0, eb0, Option.bind_some, if_true, i_n1, i_m1, i_m2, i_m4, i_m6, cl_3, hR.2.2.2.1, hG.2.2.2.2.2.2.2.2.1, n_shl t (show t < 16 by omega), n_xor, pk_us]
  rw [n_shr (a := eD L ^^^ 2 ^ t) (by omega) (by omega)]
  by_cases hb : (eD L ^^^ 2 ^ t).testBit t = true
  · rw [if_pos (show nI ((eD L ^^^ 2 ^ t) / 2 ^ t % 2) = 1 by rw [(tb_iff _ _).mpr hb]; rfl), (tb_iff _ _).mpr hb]
    exact ⟨_, _, rfl, rfl, rfl, inv_land hI ⟨lv_sD hV hx, hS.2⟩ q2 (rr_sD hR)⟩
  · have hb2 : (eD L ^^^ 2 ^ t) / 2 ^ t % 2 = 0 := by
      have h6 : ¬ (eD L ^^^ 2 ^ t) / 2 ^ t % 2 = 1 := fun q => hb ((tb_iff (eD L ^^^ 2 ^ t) t).mp q)
      generalize (eD L ^^^ 2 ^ t) / 2 ^ t = z at h6 ⊢
      omega
    rw [hb2, if_neg (show ¬ nI 0 = 1 by decide)]
    exact ⟨_, _, rfl, rfl, rfl, inv_land hI ⟨lv_sD hV hx, hS.2⟩ q2 (rr_sD hR)⟩
set_option maxHeartbeats 2000000 in
theorem st_hours (yn : LandT) (ym : LandT) (yk : LandT) (yl : (Nat → Int32)) (yt : Int32) (yd : Int32) (yu : (Nat → Int32)) (ye : (Nat → Int32)) (yv : (Nat → Int32)) (yo : (Nat → Int64)) (y0 : (Nat → Int32)) (y1 : (Nat → Int32)) (yc : Int32) (yh : Int32) (xs : (Nat → Int32)) (xm : (Nat → Int32)) (xi : (Nat → Int32)) (xw : (Nat → Int32)) (xh : Int32) (xl : (Nat → Int32)) (xr : (Nat → Int32)) (xe : (Nat → Int32)) (xn : Int32) (xo : Int32) (xp : Int32) (xu : (Nat → Int32)) (xd : Int32) (v1 : Int32) (hI : Inv yn yk yl yt yu ye yc yh xs xi xh xl xr xe xn xo) : ∃ (ra : Int32 × LandT × (Nat → Int32)) (rb : Int32 × (Nat → Int32) × (Nat → Int32)), fX3_hours v1 yn ye = some ra ∧ fX4_hours v1 xs xe = some rb ∧ ra.1 = rb.1 ∧ Inv ra.2.1 yk yl yt yu ra.2.2 yc yh rb.2.1 xi xh xl xr rb.2.2 xn xo := by
  obtain ⟨⟨L, hS, hG, hR⟩, h2, h3, h4, h5⟩ := id hI
  have hV := hS.1
  have hT := hS.2
  have hN := hV.2.2.2.2.2.2.1
  unfold fX3_hours fX4_hours
  rw [hG.2.2.2.2.2.2.2.2.2.2, cl_1, hR.2.1, show (999 : Int32) - nI (eT L) = nI (999 - eT L) from pk_sub (a := 999) hT, isW_eq]
  have hm : imin 60 (nI (999 - eT L)) = nI (min 60 (999 - eT L)) := by
    unfold imin
    rw [if_ltn (v := 60) (k := 60) rfl rfl (by omega) (by omega)]
    by_cases h : 999 - eT L < 60
    · rw [if_pos h, Nat.min_eq_right (by omega)]
    · rw [if_neg h, Nat.min_eq_left (by omega)]
      rfl
  rw [hm]
  have hml : min 60 (999 - eT L) ≤ 60 := Nat.min_le_left _ _
  have hmr : min 60 (999 - eT L) ≤ 999 - eT L := Nat.min_le_right _ _
  by_cases c1 : (1 : Int32) ≤ v1
  · have c0 : ¬ v1 < 0 := fun q => absurd (Int32.lt_of_lt_of_le q (show (0 : Int32) ≤ 1 by decide)) (Int32.not_lt.mpr c1)
    obtain ⟨k, hk, rfl⟩ := nI_of c0
    have hk1 : 1 ≤ k := (n_le (a := 1) (by omega) hk).mp c1
    rw [if_pos c1, if_pos c1, if_ltn (u := 60) (a := 60) rfl rfl (by omega) hk]
    unfold fX4_isIn
    rw [if_ltn (v := 1) (k := 1) rfl rfl hk (by omega), if_neg (show ¬ k < 1 by omega), if_ltn rfl rfl (by omega) hk]
    by_cases c2 : 60 < k
    · obtain ⟨u, w, q1, q2, q3⟩ := rf h5 (c := -6) (k := 6) (by omega) rfl
      rw [if_pos c2, if_pos (show min 60 (999 - eT L) < k by omega)]
      simp only [Option.bind_some, if_true, i_n1, i_m1, i_m2, i_m4, i_m6]
      rw [q1, q2]
      exact ⟨_, _, rfl, rfl, rfl, inv_ref hI q3⟩
    · rw [if_neg c2, nI_add, if_len (v := 999) (k := 999) rfl rfl (by omega) (by omega)]
      by_cases c3 : eT L + k ≤ 999
      · have hg : k ≤ min 60 (999 - eT L) := Nat.le_min.mpr ⟨by omega, by omega⟩
        obtain ⟨g', q1, q2⟩ := gx_pass hG hV (n := k) (by omega) (by omega)
        obtain ⟨r', q3, q4⟩ := rx_hoursOn hR hV (n := k) (by omega) (by omega)
        rw [if_neg (show ¬ min 60 (999 - eT L) < k by omega), if_pos c3, q3]
        simp only [Option.bind_some, if_true, i_n1, i_m1, i_m2, i_m4, i_m6, q1]
        refine ⟨_, _, rfl, rfl, q2.2.2.2.2.2.2.2.2.2.2.trans q4.2.1.symm, inv_land hI ⟨hrsL_V hV k (by omega), ?_⟩ q2 q4⟩
        rw [hrsL_T]
        exact c3
      · obtain ⟨u, w, q1, q2, q3⟩ := rf h5 (c := -6) (k := 6) (by omega) rfl
        rw [if_neg c3, if_pos (show min 60 (999 - eT L) < k by omega)]
        simp only [Option.bind_some, if_true, i_n1, i_m1, i_m2, i_m4, i_m6]
        rw [q1, q2]
        exact ⟨_, _, rfl, rfl, rfl, inv_ref hI q3⟩
  · obtain ⟨u, w, q1, q2, q3⟩ := rf h5 (c := -4) (k := 4) (by omega) rfl
    rw [if_neg c1, if_neg c1]
    unfold fX4_isIn
    rw [if_pos (Int32.not_le.mp c1)]
    simp only [Option.bind_some, if_true, i_n1, i_m1, i_m2, i_m4, i_m6]
    rw [q1, q2]
    exact ⟨_, _, rfl, rfl, rfl, inv_ref hI q3⟩
set_option maxHeartbeats 2000000 in
theorem st_seen (yn : LandT) (ym : LandT) (yk : LandT) (yl : (Nat → Int32)) (yt : Int32) (yd : Int32) (yu : (Nat → Int32)) (ye : (Nat → Int32)) (yv : (Nat → Int32)) (yo : (Nat → Int64)) (y0 : (Nat → Int32)) (y1 : (Nat → Int32)) (yc : Int32) (yh : Int32) (xs : (Nat → Int32)) (xm : (Nat → Int32)) (xi : (Nat → Int32)) (xw : (Nat → Int32)) (xh : Int32) (xl : (Nat → Int32)) (xr : (Nat → Int32)) (xe : (Nat → Int32)) (xn : Int32) (xo : Int32) (xp : Int32) (xu : (Nat → Int32)) (xd : Int32) (v1 : Int32) (v2 : Int32) (hI : Inv yn yk yl yt yu ye yc yh xs xi xh xl xr xe xn xo) : ∃ (ra : Int32 × (Nat → Int32)) (rb : Int32 × (Nat → Int32)), fX3_seen v1 v2 yn ye = some ra ∧ fX4_seen v1 v2 xs xe = some rb ∧ ra.1 = rb.1 ∧ Inv yn yk yl yt yu ra.2 yc yh xs xi xh xl xr rb.2 xn xo := by
  obtain ⟨⟨L, hS, hG, hR⟩, h2, h3, h4, h5⟩ := id hI
  have hV := hS.1
  have hT := hS.2
  have hN := hV.2.2.2.2.2.2.1
  unfold fX3_seen fX4_seen
  rcases cs_branch v1 with ⟨ea0, eb0⟩ | ⟨b, hb, rfl, ea0, eb0⟩
  · obtain ⟨u, w, q1, q2, q3⟩ := rf h5 (c := -1) (k := 1) (by omega) rfl
    simp only [ea0, eb0, Option.bind_some, if_true, i_n1, i_m1, i_m2, i_m4, i_m6]
    rw [q1, q2]
    exact ⟨_, _, rfl, rfl, rfl, inv_ref hI q3⟩
  simp only [ea0, eb0, Option.bind_some, if_true, i_n1, i_m1, i_m2, i_m4, i_m6]
  by_cases c0 : v2 = 0
  · rw [if_pos c0, if_pos c0, gx_sight hG hV (by omega), rx_sight hR hV (by omega)]
    exact ⟨_, _, rfl, rfl, rfl, hI⟩
  rw [if_neg c0, if_neg c0]
  by_cases c1 : v2 = 1
  · rw [if_pos c1, if_pos c1, gx_vfrom hG hV (by omega), rx_verd hR hV (by omega)]
    exact ⟨_, _, rfl, rfl, rfl, hI⟩
  rw [if_neg c1, if_neg c1]
  by_cases c2 : v2 = 2
  · rw [if_pos c2, if_pos c2, gx_sight hG hV (by omega), rx_dec hR hV (by omega)]
    simp only [Option.bind_some]
    have hs := sght_lt hV b
    rw [gx_dec hG hV (by omega)]
    exact ⟨_, _, rfl, rfl, rfl, hI⟩
  rw [if_neg c2, if_neg c2]
  by_cases c3 : v2 = 3
  · obtain ⟨x, q1, q2⟩ := bx_far hG hR hV (b := b) hb
    rw [if_pos c3, if_pos c3, gx_sight hG hV (by omega), q2]
    simp only [Option.bind_some, q1]
    exact ⟨_, _, rfl, rfl, rfl, hI⟩
  rw [if_neg c3, if_neg c3]
  by_cases c4 : v2 = 4
  · obtain ⟨x, q1, q2⟩ := bx_blind hG hR hV (b := b) hb
    rw [if_pos c4, if_pos c4, q1, q2]
    exact ⟨_, _, rfl, rfl, rfl, hI⟩
  · obtain ⟨u, w, q1, q2, q3⟩ := rf h5 (c := -2) (k := 2) (by omega) rfl
    rw [if_neg c4, if_neg c4, q1, q2]
    exact ⟨_, _, rfl, rfl, rfl, inv_ref hI q3⟩
set_option maxHeartbeats 2000000 in
theorem st_thingThen (yn : LandT) (ym : LandT) (yk : LandT) (yl : (Nat → Int32)) (yt : Int32) (yd : Int32) (yu : (Nat → Int32)) (ye : (Nat → Int32)) (yv : (Nat → Int32)) (yo : (Nat → Int64)) (y0 : (Nat → Int32)) (y1 : (Nat → Int32)) (yc : Int32) (yh : Int32) (xs : (Nat → Int32)) (xm : (Nat → Int32)) (xi : (Nat → Int32)) (xw : (Nat → Int32)) (xh : Int32) (xl : (Nat → Int32)) (xr : (Nat → Int32)) (xe : (Nat → Int32)) (xn : Int32) (xo : Int32) (xp : Int32) (xu : (Nat → Int32)) (xd : Int32) (v1 : Int32) (v2 : Int32) (hI : Inv yn yk yl yt yu ye yc yh xs xi xh xl xr xe xn xo) : ∃ (ra : Int32 × LandT × (Nat → Int32)) (rb : Int32 × (Nat → Int32) × (Nat → Int32)), fX3_thingThen v1 v2 yn ym ye = some ra ∧ fX4_thingThen v1 v2 xs xm xe = some rb ∧ ra.1 = rb.1 ∧ Inv yn yk yl yt yu ra.2.2 yc yh xs xi xh xl xr rb.2.2 xn xo := by
  obtain ⟨⟨L, hS, hG, hR⟩, h2, h3, h4, h5⟩ := id hI
  have hV := hS.1
  have hT := hS.2
  have hN := hV.2.2.2.2.2.2.1
  unfold fX3_thingThen fX4_thingThen
  rcases cs_thing hG hR hN v1 with ⟨ea0, eb0⟩ | ⟨t, ht, rfl, ea0, eb0⟩
  · obtain ⟨u, w, q1, q2, q3⟩ := rf h5 (c := -1) (k := 1) (by omega) rfl
    simp only [ea0, eb0, Option.bind_some, if_true, i_n1, i_m1, i_m2, i_m4, i_m6]
    rw [q1, q2]
    exact ⟨_, _, rfl, rfl, rfl, inv_ref hI q3⟩
  rcases cs_rng v2 (b := 60) (by omega) with ⟨c, k', hk', hc, hc0, ea1, eb1, ec1⟩ | ⟨n, hn, rfl, ea1, eb1⟩
  · obtain ⟨u, w, q1, q2, q3⟩ := rf h5 (c := c) (k := k') hk' hc
    simp only [ea0, eb0, show fX3_isWithin v2 0 60 = some 0 from ea1, show fX4_wrongBy v2 0 60 = some c from eb1, ec1, Option.bind_some, if_true, i_n1, i_m1, i_m2, i_m4, i_m6, if_neg hc0]
    rw [q1, q2]
    exact ⟨_, _, rfl, rfl, rfl, inv_ref hI q3⟩
  obtain ⟨g', q1, q2⟩ := gx_then hG hV (n := n) hn hT
  obtain ⟨r', q3, q4⟩ := rx_then (r2 := xm) hR hV (n := n) hn hT
  simp only [ea0, eb0, show fX3_isWithin (nI n) 0 60 = some 1 from ea1, show fX4_wrongBy (nI n) 0 60 = some 0 from eb1, Option.bind_some, if_true, i_n1, i_m1, i_m2, i_m4, i_m6, q1 ym, q3, of_2]
  simp (disch := omega) only [Option.bind_some, if_ob, cl]
  exact ⟨_, _, rfl, rfl, (q2.2.2.2.2.1 t (by omega)).trans (q4.2.2.2.2.2.2.2.2.2 t (by omega)).symm, hI⟩
set_option maxHeartbeats 2000000 in
theorem st_seenThen (yn : LandT) (ym : LandT) (yk : LandT) (yl : (Nat → Int32)) (yt : Int32) (yd : Int32) (yu : (Nat → Int32)) (ye : (Nat → Int32)) (yv : (Nat → Int32)) (yo : (Nat → Int64)) (y0 : (Nat → Int32)) (y1 : (Nat → Int32)) (yc : Int32) (yh : Int32) (xs : (Nat → Int32)) (xm : (Nat → Int32)) (xi : (Nat → Int32)) (xw : (Nat → Int32)) (xh : Int32) (xl : (Nat → Int32)) (xr : (Nat → Int32)) (xe : (Nat → Int32)) (xn : Int32) (xo : Int32) (xp : Int32) (xu : (Nat → Int32)) (xd : Int32) (v1 : Int32) (v2 : Int32) (v3 : Int32) (hI : Inv yn yk yl yt yu ye yc yh xs xi xh xl xr xe xn xo) : ∃ (ra : Int32 × LandT × (Nat → Int32)) (rb : Int32 × (Nat → Int32) × (Nat → Int32)), fX3_seenThen v1 v2 v3 yn ym ye = some ra ∧ fX4_seenThen v1 v2 v3 xs xm xe = some rb ∧ ra.1 = rb.1 ∧ Inv yn yk yl yt yu ra.2.2 yc yh xs xi xh xl xr rb.2.2 xn xo := by
  obtain ⟨⟨L, hS, hG, hR⟩, h2, h3, h4, h5⟩ := id hI
  have hV := hS.1
  have hT := hS.2
  have hN := hV.2.2.2.2.2.2.1
  unfold fX3_seenThen fX4_seenThen
  rcases cs_branch v1 with ⟨ea0, eb0⟩ | ⟨b, hb, rfl, ea0, eb0⟩
  · obtain ⟨u, w, q1, q2, q3⟩ := rf h5 (c := -1) (k := 1) (by omega) rfl
    simp only [ea0, eb0, Option.bind_some, if_true, i_n1, i_m1, i_m2, i_m4, i_m6]
    rw [q1, q2]
    exact ⟨_, _, rfl, rfl, rfl, inv_ref hI q3⟩
  rcases cs_rng v2 (b := 60) (by omega) with ⟨c, k', hk', hc, hc0, ea1, eb1, ec1⟩ | ⟨n, hn, rfl, ea1, eb1⟩
  · obtain ⟨u, w, q1, q2, q3⟩ := rf h5 (c := c) (k := k') hk' hc
    simp only [ea0, eb0, show fX3_isWithin v2 0 60 = some 0 from ea1, show fX4_wrongBy v2 0 60 = some c from eb1, ec1, Option.bind_some, if_true, i_n1, i_m1, i_m2, i_m4, i_m6, if_neg hc0]
    rw [q1, q2]
    exact ⟨_, _, rfl, rfl, rfl, inv_ref hI q3⟩
  rcases cs_either v3 with ⟨ea2, eb2⟩ | ⟨w, hw, rfl, ea2, eb2⟩
  · obtain ⟨u, w, q1, q2, q3⟩ := rf h5 (c := -2) (k := 2) (by omega) rfl
    simp only [ea0, eb0, show fX3_isWithin (nI n) 0 60 = some 1 from ea1, show fX4_wrongBy (nI n) 0 60 = some 0 from eb1, ea2, eb2, Option.bind_some, if_true, i_n1, i_m1, i_m2, i_m4, i_m6]
    rw [q1, q2]
    exact ⟨_, _, rfl, rfl, rfl, inv_ref hI q3⟩
  obtain ⟨g', q1, q2⟩ := gx_then hG hV (n := n) hn hT
  obtain ⟨r', q3, q4⟩ := rx_then (r2 := xm) hR hV (n := n) hn hT
  have hV' := hrsL_V hV n (by omega)
  simp only [ea0, eb0, show fX3_isWithin (nI n) 0 60 = some 1 from ea1, show fX4_wrongBy (nI n) 0 60 = some 0 from eb1, ea2, eb2, Option.bind_some, if_true, i_n1, i_m1, i_m2, i_m4, i_m6, q1 ym, q3]
  have hw' : w = 0 ∨ w = 1 := by omega
  rcases hw' with rfl | rfl
  · rw [if_pos (show nI 0 = 0 from rfl), if_pos (show nI 0 = 0 from rfl), gx_sight q2 hV' (by omega), rx_sight q4 hV' (by omega)]
    exact ⟨_, _, rfl, rfl, rfl, hI⟩
  · rw [if_neg (show ¬ nI 1 = 0 from n10), if_neg (show ¬ nI 1 = 0 from n10), gx_vfrom q2 hV' (by omega), rx_verd q4 hV' (by omega)]
    exact ⟨_, _, rfl, rfl, rfl, hI⟩
set_option maxHeartbeats 2000000 in
theorem st_falls (yn : LandT) (ym : LandT) (yk : LandT) (yl : (Nat → Int32)) (yt : Int32) (yd : Int32) (yu : (Nat → Int32)) (ye : (Nat → Int32)) (yv : (Nat → Int32)) (yo : (Nat → Int64)) (y0 : (Nat → Int32)) (y1 : (Nat → Int32)) (yc : Int32) (yh : Int32) (xs : (Nat → Int32)) (xm : (Nat → Int32)) (xi : (Nat → Int32)) (xw : (Nat → Int32)) (xh : Int32) (xl : (Nat → Int32)) (xr : (Nat → Int32)) (xe : (Nat → Int32)) (xn : Int32) (xo : Int32) (xp : Int32) (xu : (Nat → Int32)) (xd : Int32) (v1 : Int32) (v2 : Int32) (hI : Inv yn yk yl yt yu ye yc yh xs xi xh xl xr xe xn xo) : ∃ (ra : Int32 × LandT × (Nat → Int32)) (rb : Int32 × (Nat → Int32) × (Nat → Int32)), fX3_falls v1 v2 yn ym ye = some ra ∧ fX4_falls v1 v2 xs xm xe = some rb ∧ ra.1 = rb.1 ∧ Inv yn yk yl yt yu ra.2.2 yc yh xs xi xh xl xr rb.2.2 xn xo := by
  obtain ⟨⟨L, hS, hG, hR⟩, h2, h3, h4, h5⟩ := id hI
  have hV := hS.1
  have hT := hS.2
  have hN := hV.2.2.2.2.2.2.1
  unfold fX3_falls fX4_falls
  rcases cs_branch v1 with ⟨ea0, eb0⟩ | ⟨b, hb, rfl, ea0, eb0⟩
  · obtain ⟨u, w, q1, q2, q3⟩ := rf h5 (c := -1) (k := 1) (by omega) rfl
    simp only [ea0, eb0, Option.bind_some, if_true, i_n1, i_m1, i_m2, i_m4, i_m6]
    rw [q1, q2]
    exact ⟨_, _, rfl, rfl, rfl, inv_ref hI q3⟩
  rcases cs_verdict v2 with ⟨ea1, eb1⟩ | ⟨v, hv, rfl, ea1, eb1⟩
  · obtain ⟨u, w, q1, q2, q3⟩ := rf h5 (c := -2) (k := 2) (by omega) rfl
    simp only [ea0, eb0, ea1, eb1, Option.bind_some, if_true, i_n1, i_m1, i_m2, i_m4, i_m6]
    rw [q1, q2]
    exact ⟨_, _, rfl, rfl, rfl, inv_ref hI q3⟩
  obtain ⟨r1, q1, hR1⟩ := rx_copy (r2 := xm) hR
  obtain ⟨x, y, h6, h7, h8⟩ := lp_sim (bA := bX3_falls_35 (nI b) (nI v) ye) (bB := bX4_falls_49 (nI b) (nI v) xe) (a := (0, yn)) (b := (0, r1)) (fun i s s' => s.1 = nI i ∧ s'.1 = nI i ∧ GR s.2 (hrsL L i) ∧ RR s'.2 (hrsL L i)) (fun x y => (∃ k g r, x = .inl (k, g, ye) ∧ y = .inl (k, r, xe)) ∨ ∃ g r, x = .inr g ∧ y = .inr r) 61 (by omega) (by
    rintro i ⟨s1, s2⟩ ⟨s3, s4⟩ hi ⟨e1, e2, hG1, hR1⟩
    dsimp only at e1 e2 hG1 hR1
    subst e1; subst e2
    have hV1 := hv_i hV hT (i := i) (by omega)
    have l1 := vr_le hV1 b
    dsimp only [bX3_falls_35, bX4_falls_49]
    rw [if_ltn (u := 60) (a := 60) rfl rfl (by omega) (by omega), if_ltn (u := 60) (a := 60) rfl rfl (by omega) (by omega)]
    by_cases h : 60 < i
    · rw [if_pos h, if_pos h]
      exact Or.inr ⟨_, _, rfl, rfl, Or.inr ⟨_, _, rfl, rfl⟩⟩
    · obtain ⟨g', p1, p2⟩ := gx_p1 hG1 hV hT (by omega)
      obtain ⟨r', p3, p4⟩ := rx_p1 hR1 hV hT (by omega)
      rw [if_neg h, if_neg h, gx_vfrom hG1 hV1 (by omega), rx_verd hR1 hV1 (by omega)]
      simp only [Option.bind_some]
      rw [if_eqn rfl (by omega) (by omega), if_eqn rfl (by omega) (by omega), p1, p3, nI_1]
      by_cases h2 : vrd (hrsL L i) b = v
      · rw [if_pos h2, if_pos h2]
        exact Or.inr ⟨_, _, rfl, rfl, Or.inl ⟨_, _, _, rfl, rfl⟩⟩
      · rw [if_neg h2, if_neg h2]
        exact Or.inl ⟨by omega, _, _, rfl, rfl, rfl, rfl, p2, p4⟩) ⟨rfl, rfl, hG, hR1⟩
  simp only [ea0, eb0, ea1, eb1, Option.bind_some, if_true, i_n1, i_m1, i_m2, i_m4, i_m6, fX3_inMind, fX0_copyFrom, q1]
  rw [h6, h7]
  rcases h8 with ⟨k, g, r, rfl, rfl⟩ | ⟨g, r, rfl, rfl⟩
  · exact ⟨_, _, rfl, rfl, rfl, hI⟩
  · exact ⟨_, _, rfl, rfl, rfl, hI⟩
set_option maxHeartbeats 2000000 in
theorem st_sight (yn : LandT) (ym : LandT) (yk : LandT) (yl : (Nat → Int32)) (yt : Int32) (yd : Int32) (yu : (Nat → Int32)) (ye : (Nat → Int32)) (yv : (Nat → Int32)) (yo : (Nat → Int64)) (y0 : (Nat → Int32)) (y1 : (Nat → Int32)) (yc : Int32) (yh : Int32) (xs : (Nat → Int32)) (xm : (Nat → Int32)) (xi : (Nat → Int32)) (xw : (Nat → Int32)) (xh : Int32) (xl : (Nat → Int32)) (xr : (Nat → Int32)) (xe : (Nat → Int32)) (xn : Int32) (xo : Int32) (xp : Int32) (xu : (Nat → Int32)) (xd : Int32) (v1 : Int32) (v2 : Int32) (v3 : Int32) (hI : Inv yn yk yl yt yu ye yc yh xs xi xh xl xr xe xn xo) : ∃ (ra : Int32 × LandT × (Nat → Int32)) (rb : Int32 × (Nat → Int32) × (Nat → Int32)), fX3_sight v1 v2 v3 yn ym ye = some ra ∧ fX4_sight v1 v2 v3 xs xm xe = some rb ∧ ra.1 = rb.1 ∧ Inv yn yk yl yt yu ra.2.2 yc yh xs xi xh xl xr rb.2.2 xn xo := by
  obtain ⟨⟨L, hS, hG, hR⟩, h2, h3, h4, h5⟩ := id hI
  have hV := hS.1
  have hT := hS.2
  have hN := hV.2.2.2.2.2.2.1
  unfold fX3_sight fX4_sight
  rcases cs_branch v1 with ⟨ea0, eb0⟩ | ⟨b, hb, rfl, ea0, eb0⟩
  · obtain ⟨u, w, q1, q2, q3⟩ := rf h5 (c := -1) (k := 1) (by omega) rfl
    simp only [ea0, eb0, Option.bind_some, if_true, i_n1, i_m1, i_m2, i_m4, i_m6]
    rw [q1, q2]
    exact ⟨_, _, rfl, rfl, rfl, inv_ref hI q3⟩
  rcases cs_thing hG hR hN v2 with ⟨ea1, eb1⟩ | ⟨t, ht, rfl, ea1, eb1⟩
  · obtain ⟨u, w, q1, q2, q3⟩ := rf h5 (c := -1) (k := 1) (by omega) rfl
    simp only [ea0, eb0, ea1, eb1, Option.bind_some, if_true, i_n1, i_m1, i_m2, i_m4, i_m6]
    rw [q1, q2]
    exact ⟨_, _, rfl, rfl, rfl, inv_ref hI q3⟩
  rcases cs_either v3 with ⟨ea2, eb2⟩ | ⟨w, hw, rfl, ea2, eb2⟩
  · obtain ⟨u, w, q1, q2, q3⟩ := rf h5 (c := -2) (k := 2) (by omega) rfl
    simp only [ea0, eb0, ea1, eb1, ea2, eb2, Option.bind_some, if_true, i_n1, i_m1, i_m2, i_m4, i_m6]
    rw [q1, q2]
    exact ⟨_, _, rfl, rfl, rfl, inv_ref hI q3⟩
  obtain ⟨r1, q1, hR1⟩ := rx_copy (r2 := xm) hR
  obtain ⟨x, y, h6, h7, h8⟩ := lp_sim (bA := bX3_sight_54 (nI b) (nI t)) (bB := bX4_sight_69 (nI b) (nI t)) (a := (-9, 0, 0, yn)) (b := (-9, 0, 0, r1)) (fun i s s' => s.1 = s'.1 ∧ s.2.1 = s'.2.1 ∧ s.2.2.1 = nI i ∧ s'.2.2.1 = nI i ∧ GR s.2.2.2 (hrsL L i) ∧ RR s'.2.2.2 (hrsL L i)) (fun x y => x.1 = y.1 ∧ x.2.1 = y.2.1) 61 (by omega) (by
    rintro i ⟨s1, s2, s3, s4⟩ ⟨z1, z2, z3, z4⟩ hi ⟨e1, e2, e3, e4, hG1, hR1⟩
    dsimp only at e1 e2 e3 e4 hG1 hR1
    subst e1; subst e2; subst e3; subst e4
    have hV1 := hv_i hV hT (i := i) (by omega)
    have ht1 : t < eN (hrsL L i) := by rw [hrsL_N]; exact ht
    dsimp only [bX3_sight_54, bX4_sight_69]
    rw [if_ltn (u := 60) (a := 60) rfl rfl (by omega) (by omega), if_ltn (u := 60) (a := 60) rfl rfl (by omega) (by omega)]
    by_cases h : 60 < i
    · rw [if_pos h, if_pos h]
      exact Or.inr ⟨_, _, rfl, rfl, rfl, rfl⟩
    · obtain ⟨g', p1, p2⟩ := gx_p1 hG1 hV hT (by omega)
      obtain ⟨r', p3, p4⟩ := rx_p1 hR1 hV hT (by omega)
      rw [if_neg h, if_neg h, gx_seen hG1 hV1 (by omega) (by omega), rx_sight hR1 hV1 (by omega)]
      simp only [Option.bind_some]
      rw [has_see hV1 ht1]
      simp only [Option.bind_some, i_b0, p1, p3, nI_1]
      refine Or.inl ⟨by omega, ?_⟩
      by_cases h2 : seeB (hrsL L i) b t = true
      · rw [if_pos h2]
        by_cases h3 : s2 = 0
        · rw [if_pos h3]
          exact ⟨_, _, rfl, rfl, rfl, rfl, rfl, rfl, p2, p4⟩
        · rw [if_neg h3]
          exact ⟨_, _, rfl, rfl, rfl, rfl, rfl, rfl, p2, p4⟩
      · rw [if_neg h2]
        exact ⟨_, _, rfl, rfl, rfl, rfl, rfl, rfl, p2, p4⟩) ⟨rfl, rfl, rfl, rfl, hG, hR1⟩
  simp only [ea0, eb0, ea1, eb1, ea2, eb2, Option.bind_some, if_true, i_n1, i_m1, i_m2, i_m4, i_m6, fX3_inMind, fX0_copyFrom, q1]
  rw [h6, h7]
  obtain ⟨x1, x2, x3⟩ := x
  obtain ⟨y1, y2, y3⟩ := y
  obtain ⟨rfl, rfl⟩ := h8
  simp only [Option.bind_some]
  by_cases c0 : nI w = 0
  · rw [if_pos c0, if_pos c0]
    exact ⟨_, _, rfl, rfl, rfl, hI⟩
  · rw [if_neg c0, if_neg c0]
    exact ⟨_, _, rfl, rfl, rfl, hI⟩
set_option maxHeartbeats 2000000 in
theorem st_agree (yn : LandT) (ym : LandT) (yk : LandT) (yl : (Nat → Int32)) (yt : Int32) (yd : Int32) (yu : (Nat → Int32)) (ye : (Nat → Int32)) (yv : (Nat → Int32)) (yo : (Nat → Int64)) (y0 : (Nat → Int32)) (y1 : (Nat → Int32)) (yc : Int32) (yh : Int32) (xs : (Nat → Int32)) (xm : (Nat → Int32)) (xi : (Nat → Int32)) (xw : (Nat → Int32)) (xh : Int32) (xl : (Nat → Int32)) (xr : (Nat → Int32)) (xe : (Nat → Int32)) (xn : Int32) (xo : Int32) (xp : Int32) (xu : (Nat → Int32)) (xd : Int32)  (hI : Inv yn yk yl yt yu ye yc yh xs xi xh xl xr xe xn xo) : ∃ (ra : Int32 × LandT) (rb : Int32 × (Nat → Int32)), fX3_agree yn ym = some ra ∧ fX4_agree xs xm = some rb ∧ ra.1 = rb.1 ∧ Inv yn yk yl yt yu ye yc yh xs xi xh xl xr xe xn xo := by
  obtain ⟨⟨L, hS, hG, hR⟩, h2, h3, h4, h5⟩ := id hI
  have hV := hS.1
  have hT := hS.2
  have hN := hV.2.2.2.2.2.2.1
  unfold fX3_agree fX4_agree
  obtain ⟨r1, q1, hR1⟩ := rx_copy (r2 := xm) hR
  obtain ⟨x, y, h6, h7, h8⟩ := lp_sim (bA := bX3_agree_7) (bB := bX4_agree_13) (a := (0, yn)) (b := (0, r1)) (fun i s s' => s.1 = nI i ∧ s'.1 = nI i ∧ GR s.2 (hrsL L i) ∧ RR s'.2 (hrsL L i)) (fun x y => (∃ k g r, x = .inl (k, g) ∧ y = .inl (k, r)) ∨ ∃ g r, x = .inr g ∧ y = .inr r) 61 (by omega) (by
    rintro i ⟨s1, s2⟩ ⟨s3, s4⟩ hi ⟨e1, e2, hG1, hR1⟩
    dsimp only at e1 e2 hG1 hR1
    subst e1; subst e2
    have hV1 := hv_i hV hT (i := i) (by omega)
    dsimp only [bX3_agree_7, bX4_agree_13]
    rw [if_ltn (u := 60) (a := 60) rfl rfl (by omega) (by omega), if_ltn (u := 60) (a := 60) rfl rfl (by omega) (by omega)]
    by_cases h : 60 < i
    · rw [if_pos h, if_pos h]
      exact Or.inr ⟨_, _, rfl, rfl, Or.inr ⟨_, _, rfl, rfl⟩⟩
    · obtain ⟨g', p1, p2⟩ := gx_p1 hG1 hV hT (by omega)
      obtain ⟨r', p3, p4⟩ := rx_p1 hR1 hV hT (by omega)
      obtain ⟨x, p5, p6⟩ := gx_dif hG1 hV1 (b := 0) (by omega)
      rw [if_neg h, if_neg h, show fX0_differsAbove 0 s2 = some x from p5]
      rcases rx_agree hR1 hV1 with ⟨p7, h2⟩ | ⟨p7, h2⟩
      · rw [p7]
        simp only [Option.bind_some, i_n1]
        rw [if_pos (p6.mpr (fun c _ hc => h2 c hc))]
        exact Or.inr ⟨_, _, rfl, rfl, Or.inl ⟨_, _, _, rfl, rfl⟩⟩
      · rw [p7]
        simp only [Option.bind_some, if_true, p1, p3, nI_1]
        rw [if_neg (show ¬ x = -9 from fun q => h2 (fun c hc => by
          by_cases e : c = 0
          · rw [e]
          · exact p6.mp q c (by omega) hc))]
        exact Or.inl ⟨by omega, _, _, rfl, rfl, rfl, rfl, p2, p4⟩) ⟨rfl, rfl, hG, hR1⟩
  simp only [Option.bind_some, if_true, i_n1, i_m1, i_m2, i_m4, i_m6, fX3_inMind, fX0_copyFrom, q1]
  rw [h6, h7]
  rcases h8 with ⟨k, g, r, rfl, rfl⟩ | ⟨g, r, rfl, rfl⟩
  · exact ⟨_, _, rfl, rfl, rfl, hI⟩
  · exact ⟨_, _, rfl, rfl, rfl, hI⟩
set_option maxHeartbeats 2000000 in
theorem st_appeal (yn : LandT) (ym : LandT) (yk : LandT) (yl : (Nat → Int32)) (yt : Int32) (yd : Int32) (yu : (Nat → Int32)) (ye : (Nat → Int32)) (yv : (Nat → Int32)) (yo : (Nat → Int64)) (y0 : (Nat → Int32)) (y1 : (Nat → Int32)) (yc : Int32) (yh : Int32) (xs : (Nat → Int32)) (xm : (Nat → Int32)) (xi : (Nat → Int32)) (xw : (Nat → Int32)) (xh : Int32) (xl : (Nat → Int32)) (xr : (Nat → Int32)) (xe : (Nat → Int32)) (xn : Int32) (xo : Int32) (xp : Int32) (xu : (Nat → Int32)) (xd : Int32) (v1 : Int32) (hI : Inv yn yk yl yt yu ye yc yh xs xi xh xl xr xe xn xo) : ∃ (ra : Int32 × (Nat → Int32)) (rb : Int32 × (Nat → Int32)), fX3_appeal v1 yn ye = some ra ∧ fX4_appeal v1 xs xe = some rb ∧ ra.1 = rb.1 ∧ Inv yn yk yl yt yu ra.2 yc yh xs xi xh xl xr rb.2 xn xo := by
  obtain ⟨⟨L, hS, hG, hR⟩, h2, h3, h4, h5⟩ := id hI
  have hV := hS.1
  have hT := hS.2
  have hN := hV.2.2.2.2.2.2.1
  unfold fX3_appeal fX4_appeal
  rcases cs_branch v1 with ⟨ea0, eb0⟩ | ⟨b, hb, rfl, ea0, eb0⟩
  · obtain ⟨u, w, q1, q2, q3⟩ := rf h5 (c := -1) (k := 1) (by omega) rfl
    simp only [ea0, eb0, Option.bind_some, if_true, i_n1, i_m1, i_m2, i_m4, i_m6]
    rw [q1, q2]
    exact ⟨_, _, rfl, rfl, rfl, inv_ref hI q3⟩
  unfold fX0_differsAbove
  obtain ⟨x, y, h6, h7, h8⟩ := lp_sim (bA := bX0_differsAbove_10 yn (nI (vrd L b))) (bB := bX4_appeal_26 xs xe (nI (vrd L b))) (a := nI b + 1) (b := nI b + 1) (fun i s s' => s = nI (b + 1 + i) ∧ s' = nI (b + 1 + i)) (fun x y => (∃ k, x = .inl k ∧ y = .inl (k, xe)) ∨ (x = .inr () ∧ y = .inr ())) 10 (by omega) (by
    rintro i s s' hi ⟨rfl, rfl⟩
    dsimp only [bX0_differsAbove_10, bX4_appeal_26]
    rw [if_len (u := 10) (a := 10) rfl rfl (by omega) (by omega), if_len (u := 10) (a := 10) rfl rfl (by omega) (by omega)]
    by_cases h : 10 ≤ b + 1 + i
    · rw [if_pos h, if_pos h]
      exact Or.inr ⟨_, _, rfl, rfl, Or.inr ⟨rfl, rfl⟩⟩
    · rw [if_neg h, if_neg h, gx_vfrom hG hV (by omega), rx_verd hR hV (by omega)]
      simp only [Option.bind_some, nI_1]
      by_cases h2 : nI (vrd L (b + 1 + i)) = nI (vrd L b)
      · rw [if_pos h2, if_pos h2]
        exact Or.inl ⟨by omega, _, _, rfl, rfl, rfl, rfl⟩
      · rw [if_neg h2, if_neg h2]
        exact Or.inr ⟨_, _, rfl, rfl, Or.inl ⟨_, rfl, rfl⟩⟩) ⟨nI_1 b, nI_1 b⟩
  simp only [ea0, eb0, Option.bind_some, if_true, i_n1, i_m1, i_m2, i_m4, i_m6]
  rw [gx_vfrom hG hV (by omega), rx_verd hR hV (by omega)]
  simp only [Option.bind_some]
  rw [h6, h7]
  rcases h8 with ⟨k, rfl, rfl⟩ | ⟨rfl, rfl⟩
  · exact ⟨_, _, rfl, rfl, rfl, hI⟩
  · exact ⟨_, _, rfl, rfl, rfl, hI⟩
