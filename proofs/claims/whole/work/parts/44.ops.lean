/-! ===== the steps: what both sides share ===== -/
theorem n10 : ¬ (1 : Int32) = 0 := by decide
theorem n00 : (0 : Int32) = 0 := rfl
theorem rf {ye xe : Nat → Int32} (h : ∀ j, j < 7 → ye j = xe j) {c : Int32} {k : Nat} (hk : k < 7) (hc : -c = nI k) : ∃ u w, fX3_refuse c ye = some (c, u) ∧ fX4_no c xe = some (c, w) ∧ ∀ j, j < 7 → u j = w j := by
  unfold fX3_refuse fX4_no
  rw [hc, if_ob hk (by omega), if_ob hk (by omega), if_ob hk (by omega), if_ob hk (by omega), cl (by omega)]
  refine ⟨_, _, rfl, rfl, fun j hj => ?_⟩
  by_cases e : j = k
  · rw [e, pk_us, pk_us, h k hk]
  · rw [pk_un e, pk_un e]
    exact h j hj
section INVS
variable {yn yk : LandT} {yl : Nat → Int32} {yt : Int32} {yu ye : Nat → Int32} {yc yh : Int32} {xs xi : Nat → Int32} {xh : Int32} {xl xr xe : Nat → Int32} {xn xo : Int32}
theorem inv_ref (hI : Inv yn yk yl yt yu ye yc yh xs xi xh xl xr xe xn xo) {u w : Nat → Int32} (h : ∀ j, j < 7 → u j = w j) : Inv yn yk yl yt yu u yc yh xs xi xh xl xr w xn xo := ⟨hI.1, hI.2.1, hI.2.2.1, hI.2.2.2.1, h⟩
theorem inv_land (hI : Inv yn yk yl yt yu ye yc yh xs xi xh xl xr xe xn xo) {g : LandT} {r : Nat → Int32} {L : LdN} (hS : LdS L) (hG : GR g L) (hR : RR r L) : Inv g yk yl yt yu ye yc yh r xi xh xl xr xe xn xo := ⟨⟨L, hS, hG, hR⟩, hI.2.1, hI.2.2.1, hI.2.2.2.1, hI.2.2.2.2⟩
end INVS
theorem cs_in (v : Int32) (b : Nat) (hb : b < 2 ^ 31) : fX4_isIn v 0 (nI b) = some 0 ∨ ∃ k, k ≤ b ∧ v = nI k ∧ fX4_isIn v 0 (nI b) = some 1 := by
  rcases isIn_cases v (a := 0) (b := b) hb (Nat.zero_le b) with ⟨h, -⟩ | ⟨h, k, -, h2, h3⟩
  · exact Or.inl h
  · exact Or.inr ⟨k, h2, h3, h⟩
theorem cs_cell (v : Int32) : (fX3_isCell v = some 0 ∧ fX4_isCell v = some 0) ∨ ∃ k, k < 16 ∧ v = nI k ∧ fX3_isCell v = some 1 ∧ fX4_isCell v = some 1 := by
  unfold fX3_isCell fX4_isCell
  rw [isW_eq]
  rcases cs_in v 15 (by omega) with h | ⟨k, h1, h2, h⟩
  · rw [show fX4_isIn v 0 15 = some 0 from h]
    exact Or.inl ⟨rfl, rfl⟩
  · rw [show fX4_isIn v 0 15 = some 1 from h]
    exact Or.inr ⟨k, by omega, h2, rfl, rfl⟩
theorem cs_branch (v : Int32) : (fX3_isBranch v = some 0 ∧ fX4_isBranch v = some 0) ∨ ∃ k, k < 10 ∧ v = nI k ∧ fX3_isBranch v = some 1 ∧ fX4_isBranch v = some 1 := by
  unfold fX3_isBranch fX4_isBranch
  rw [isW_eq]
  rcases cs_in v 9 (by omega) with h | ⟨k, h1, h2, h⟩
  · rw [show fX4_isIn v 0 9 = some 0 from h]
    exact Or.inl ⟨rfl, rfl⟩
  · rw [show fX4_isIn v 0 9 = some 1 from h]
    exact Or.inr ⟨k, by omega, h2, rfl, rfl⟩
theorem cs_verdict (v : Int32) : (fX3_isVerdict v = some 0 ∧ fX4_isVerdict v = some 0) ∨ ∃ k, k < 3 ∧ v = nI k ∧ fX3_isVerdict v = some 1 ∧ fX4_isVerdict v = some 1 := by
  unfold fX3_isVerdict fX4_isVerdict
  rw [isW_eq]
  rcases cs_in v 2 (by omega) with h | ⟨k, h1, h2, h⟩
  · rw [show fX4_isIn v 0 2 = some 0 from h]
    exact Or.inl ⟨rfl, rfl⟩
  · rw [show fX4_isIn v 0 2 = some 1 from h]
    exact Or.inr ⟨k, by omega, h2, rfl, rfl⟩
theorem cs_kind (v : Int32) : (fX3_isKind v = some 0 ∧ fX4_isIn v 0 5 = some 0) ∨ ∃ k, k < 6 ∧ v = nI k ∧ fX3_isKind v = some 1 ∧ fX4_isIn v 0 5 = some 1 := by
  unfold fX3_isKind
  rw [isW_eq]
  rcases cs_in v 5 (by omega) with h | ⟨k, h1, h2, h⟩
  · rw [show fX4_isIn v 0 5 = some 0 from h]
    exact Or.inl ⟨rfl, rfl⟩
  · rw [show fX4_isIn v 0 5 = some 1 from h]
    exact Or.inr ⟨k, by omega, h2, rfl, rfl⟩
theorem cs_either (v : Int32) : (fX3_isEither v = some 0 ∧ fX4_isIn v 0 1 = some 0) ∨ ∃ k, k < 2 ∧ v = nI k ∧ fX3_isEither v = some 1 ∧ fX4_isIn v 0 1 = some 1 := by
  unfold fX3_isEither
  rw [isW_eq]
  rcases cs_in v 1 (by omega) with h | ⟨k, h1, h2, h⟩
  · rw [show fX4_isIn v 0 1 = some 0 from h]
    exact Or.inl ⟨rfl, rfl⟩
  · rw [show fX4_isIn v 0 1 = some 1 from h]
    exact Or.inr ⟨k, by omega, h2, rfl, rfl⟩
theorem cs_thing {g : LandT} {r : Nat → Int32} {L : LdN} (hG : GR g L) (hR : RR r L) (hN : eN L ≤ 7) (v : Int32) : (fX0_hasThing v g = some 0 ∧ fX4_isThing v r = some 0) ∨ ∃ t, t < eN L ∧ v = nI t ∧ fX0_hasThing v g = some 1 ∧ fX4_isThing v r = some 1 := by
  unfold fX0_hasThing fX4_isThing
  rw [isW_eq, hG.2.2.2.2.2.2.2.1, cl_0, hR.1]
  by_cases h0 : eN L = 0
  · have h : fX4_isIn v 0 (nI (eN L) - 1) = some 0 := by
      rw [h0]
      unfold fX4_isIn
      by_cases h1 : v < 0
      · rw [if_pos h1]
      · rw [if_neg h1, if_pos]
        obtain ⟨k, hk, rfl⟩ := nI_of h1
        exact n_m1 hk
    rw [h]
    exact Or.inl ⟨rfl, rfl⟩
  · rw [show nI (eN L) - 1 = nI (eN L - 1) from pk_sub (b := 1) (by omega)]
    rcases cs_in v (eN L - 1) (by omega) with h | ⟨k, h1, h2, h⟩
    · rw [h]
      exact Or.inl ⟨rfl, rfl⟩
    · rw [h]
      exact Or.inr ⟨k, by omega, h2, rfl, rfl⟩
/-- a number between 0 and b, or too small, or too large: both tell it alike -/
theorem cs_rng (v : Int32) {b : Nat} (hb : b < 2 ^ 31) : (∃ (c : Int32) (k : Nat), k < 7 ∧ -c = nI k ∧ ¬ c = 0 ∧ fX3_isWithin v 0 (nI b) = some 0 ∧ fX4_wrongBy v 0 (nI b) = some c ∧ (if (0 : Int32) ≤ v then some (-6 : Int32) else some (-4)) = some c) ∨ ∃ k, k ≤ b ∧ v = nI k ∧ fX3_isWithin v 0 (nI b) = some 1 ∧ fX4_wrongBy v 0 (nI b) = some 0 := by
  unfold fX4_wrongBy
  rw [isW_eq]
  by_cases h1 : (0 : Int32) ≤ v
  · obtain ⟨k, hk, rfl⟩ := nI_of (Int32.not_lt.mpr h1)
    rw [if_pos h1, if_len rfl rfl hk hb]
    by_cases h2 : k ≤ b
    · exact Or.inr ⟨k, h2, rfl, isIn_t (a := 0) rfl (Nat.zero_le k) h2 hb, by rw [if_pos h2]⟩
    · refine Or.inl ⟨-6, 6, by omega, rfl, by decide, ?_, by rw [if_neg h2], by rw [if_pos h1]⟩
      unfold fX4_isIn
      rw [if_neg (Int32.not_lt.mpr h1), if_ltn rfl rfl hb hk, if_pos (by omega)]
  · refine Or.inl ⟨-4, 4, by omega, rfl, by decide, ?_, by rw [if_neg h1], by rw [if_neg h1]⟩
    unfold fX4_isIn
    rw [if_pos (Int32.not_le.mp h1)]
set_option maxHeartbeats 1000000 in
theorem st_height (yn : LandT) (ym : LandT) (yk : LandT) (yl : (Nat → Int32)) (yt : Int32) (yd : Int32) (yu : (Nat → Int32)) (ye : (Nat → Int32)) (yv : (Nat → Int32)) (yo : (Nat → Int64)) (y0 : (Nat → Int32)) (y1 : (Nat → Int32)) (yc : Int32) (yh : Int32) (xs : (Nat → Int32)) (xm : (Nat → Int32)) (xi : (Nat → Int32)) (xw : (Nat → Int32)) (xh : Int32) (xl : (Nat → Int32)) (xr : (Nat → Int32)) (xe : (Nat → Int32)) (xn : Int32) (xo : Int32) (xp : Int32) (xu : (Nat → Int32)) (xd : Int32) (v1 : Int32) (hI : Inv yn yk yl yt yu ye yc yh xs xi xh xl xr xe xn xo) : ∃ (ra : Int32 × (Nat → Int32)) (rb : Int32 × (Nat → Int32)), fX3_height v1 yn ye = some ra ∧ fX4_height v1 xs xe = some rb ∧ ra.1 = rb.1 ∧ Inv yn yk yl yt yu ra.2 yc yh xs xi xh xl xr rb.2 xn xo := by
  obtain ⟨⟨L, hS, hG, hR⟩, h2, h3, h4, h5⟩ := id hI
  have hV := hS.1
  have hN := hV.2.2.2.2.2.2.1
  unfold fX3_height fX4_height
  rcases cs_cell v1 with ⟨e1, e2⟩ | ⟨k, hk, rfl, e1, e2⟩
  · obtain ⟨u, w, q1, q2, q3⟩ := rf h5 (c := -1) (k := 1) (by omega) rfl
    rw [e1, e2, q1, q2]
    exact ⟨_, _, rfl, rfl, rfl, inv_ref hI q3⟩
  · rw [e1, e2]
    simp (disch := omega) only [Option.bind_some, if_neg n10, if_ob, cl, n4]
    exact ⟨_, _, rfl, rfl, (hG.1 k hk).trans (hR.2.2.2.2.1 k hk).symm, hI⟩
set_option maxHeartbeats 1000000 in
theorem st_code (yn : LandT) (ym : LandT) (yk : LandT) (yl : (Nat → Int32)) (yt : Int32) (yd : Int32) (yu : (Nat → Int32)) (ye : (Nat → Int32)) (yv : (Nat → Int32)) (yo : (Nat → Int64)) (y0 : (Nat → Int32)) (y1 : (Nat → Int32)) (yc : Int32) (yh : Int32) (xs : (Nat → Int32)) (xm : (Nat → Int32)) (xi : (Nat → Int32)) (xw : (Nat → Int32)) (xh : Int32) (xl : (Nat → Int32)) (xr : (Nat → Int32)) (xe : (Nat → Int32)) (xn : Int32) (xo : Int32) (xp : Int32) (xu : (Nat → Int32)) (xd : Int32) (v1 : Int32) (v2 : Int32) (hI : Inv yn yk yl yt yu ye yc yh xs xi xh xl xr xe xn xo) : ∃ (ra : Int32 × (Nat → Int32)) (rb : Int32 × (Nat → Int32)), fX3_code v1 v2 yn ye = some ra ∧ fX4_code v1 v2 xs xe = some rb ∧ ra.1 = rb.1 ∧ Inv yn yk yl yt yu ra.2 yc yh xs xi xh xl xr rb.2 xn xo := by
  obtain ⟨⟨L, hS, hG, hR⟩, h2, h3, h4, h5⟩ := id hI
  have hV := hS.1
  have hN := hV.2.2.2.2.2.2.1
  unfold fX3_code fX4_code
  rcases cs_kind v1 with ⟨e1, e2⟩ | ⟨k, hk, rfl, e1, e2⟩
  · obtain ⟨u, w, q1, q2, q3⟩ := rf h5 (c := -2) (k := 2) (by omega) rfl
    rw [e1, e2, q1, q2]
    exact ⟨_, _, rfl, rfl, rfl, inv_ref hI q3⟩
  · rw [e1, e2]
    simp only [Option.bind_some, if_neg n10]
    rcases cs_either v2 with ⟨e3, e4⟩ | ⟨k2, hk2, rfl, e3, e4⟩
    · obtain ⟨u, w, q1, q2, q3⟩ := rf h5 (c := -2) (k := 2) (by omega) rfl
      rw [e3, e4, q1, q2]
      exact ⟨_, _, rfl, rfl, rfl, inv_ref hI q3⟩
    · rw [e3, e4]
      simp only [Option.bind_some, if_neg n10]
      have hk2' : k2 = 0 ∨ k2 = 1 := by omega
      rcases hk2' with rfl | rfl
      · simp (disch := omega) only [if_pos (show nI 0 = 0 from rfl), Option.bind_some, if_ob, cl, n20]
        exact ⟨_, _, rfl, rfl, (hG.2.2.2.2.2.1 k hk).trans (hR.2.2.2.2.2.1 k hk).symm, hI⟩
      · simp (disch := omega) only [if_neg (show ¬ nI 1 = 0 from n10), Option.bind_some, if_ob, cl, n26]
        exact ⟨_, _, rfl, rfl, (hG.2.2.2.2.2.2.1 k hk).trans (hR.2.2.2.2.2.2.1 k hk).symm, hI⟩
set_option maxHeartbeats 1000000 in
theorem st_drives (yn : LandT) (ym : LandT) (yk : LandT) (yl : (Nat → Int32)) (yt : Int32) (yd : Int32) (yu : (Nat → Int32)) (ye : (Nat → Int32)) (yv : (Nat → Int32)) (yo : (Nat → Int64)) (y0 : (Nat → Int32)) (y1 : (Nat → Int32)) (yc : Int32) (yh : Int32) (xs : (Nat → Int32)) (xm : (Nat → Int32)) (xi : (Nat → Int32)) (xw : (Nat → Int32)) (xh : Int32) (xl : (Nat → Int32)) (xr : (Nat → Int32)) (xe : (Nat → Int32)) (xn : Int32) (xo : Int32) (xp : Int32) (xu : (Nat → Int32)) (xd : Int32) (v1 : Int32) (v2 : Int32) (hI : Inv yn yk yl yt yu ye yc yh xs xi xh xl xr xe xn xo) : ∃ (ra : Int32 × LandT × (Nat → Int32)) (rb : Int32 × (Nat → Int32) × (Nat → Int32)), fX3_drives v1 v2 yn ye = some ra ∧ fX4_drives v1 v2 xs xe = some rb ∧ ra.1 = rb.1 ∧ Inv ra.2.1 yk yl yt yu ra.2.2 yc yh rb.2.1 xi xh xl xr rb.2.2 xn xo := by
  obtain ⟨⟨L, hS, hG, hR⟩, h2, h3, h4, h5⟩ := id hI
  have hV := hS.1
  have hN := hV.2.2.2.2.2.2.1
  unfold fX3_drives fX4_drives
  rcases cs_thing hG hR hN v1 with ⟨e1, e2⟩ | ⟨k, hk, rfl, e1, e2⟩
  · obtain ⟨u, w, q1, q2, q3⟩ := rf h5 (c := -1) (k := 1) (by omega) rfl
    rw [e1, e2, q1, q2]
    exact ⟨_, _, rfl, rfl, rfl, inv_ref hI q3⟩
  · rw [e1, e2]
    simp only [Option.bind_some, if_neg n10]
    rcases cs_cell v2 with ⟨e3, e4⟩ | ⟨d, hd, rfl, e3, e4⟩
    · obtain ⟨u, w, q1, q2, q3⟩ := rf h5 (c := -1) (k := 1) (by omega) rfl
      rw [e3, e4, q1, q2]
      exact ⟨_, _, rfl, rfl, rfl, inv_ref hI q3⟩
    · rw [e3, e4, of_2]
      simp (disch := omega) only [fX4_sets, Option.bind_some, if_neg n10, if_ob, cl]
      exact ⟨_, _, rfl, rfl, (hG.2.2.2.2.1 k (by omega)).trans (hR.2.2.2.2.2.2.2.2.2 k (by omega)).symm, inv_land hI ⟨lv_sC hV hd, hS.2⟩ (gg_sC hG) (rr_sC hR (by omega))⟩
set_option maxHeartbeats 1000000 in
theorem st_eyes (yn : LandT) (ym : LandT) (yk : LandT) (yl : (Nat → Int32)) (yt : Int32) (yd : Int32) (yu : (Nat → Int32)) (ye : (Nat → Int32)) (yv : (Nat → Int32)) (yo : (Nat → Int64)) (y0 : (Nat → Int32)) (y1 : (Nat → Int32)) (yc : Int32) (yh : Int32) (xs : (Nat → Int32)) (xm : (Nat → Int32)) (xi : (Nat → Int32)) (xw : (Nat → Int32)) (xh : Int32) (xl : (Nat → Int32)) (xr : (Nat → Int32)) (xe : (Nat → Int32)) (xn : Int32) (xo : Int32) (xp : Int32) (xu : (Nat → Int32)) (xd : Int32) (v1 : Int32) (hI : Inv yn yk yl yt yu ye yc yh xs xi xh xl xr xe xn xo) : ∃ (ra : Int32 × LandT × (Nat → Int32)) (rb : Int32 × (Nat → Int32) × (Nat → Int32)), fX3_eyes v1 yn ye = some ra ∧ fX4_eyes v1 xs xe = some rb ∧ ra.1 = rb.1 ∧ Inv ra.2.1 yk yl yt yu ra.2.2 yc yh rb.2.1 xi xh xl xr rb.2.2 xn xo := by
  obtain ⟨⟨L, hS, hG, hR⟩, h2, h3, h4, h5⟩ := id hI
  have hV := hS.1
  have hN := hV.2.2.2.2.2.2.1
  unfold fX3_eyes fX4_eyes
  rcases cs_rng v1 (b := 16) (by omega) with ⟨c, k, hk, hc, hc0, e1, e2, e3⟩ | ⟨k, hk, rfl, e1, e2⟩
  · obtain ⟨u, w, q1, q2, q3⟩ := rf h5 (c := c) (k := k) hk hc
    rw [show fX3_isWithin v1 0 16 = some 0 from e1, show fX4_wrongBy v1 0 16 = some c from e2, e3]
    simp only [Option.bind_some, if_true, if_neg hc0, q1, q2]
    exact ⟨_, _, rfl, rfl, rfl, inv_ref hI q3⟩
  · rw [show fX3_isWithin (nI k) 0 16 = some 1 from e1, show fX4_wrongBy (nI k) 0 16 = some 0 from e2]
    simp only [Option.bind_some, if_neg n10, if_true, fX4_sets]
    rw [if_neg (show ¬ ob 2 53 by decide), if_neg (show ¬ ob 2 53 by decide), cl_2]
    exact ⟨_, _, rfl, rfl, hG.2.2.2.2.2.2.2.2.2.1.trans hR.2.2.1.symm, inv_land hI ⟨lv_sE hV hk, hS.2⟩ (gg_sE hG) (rr_sE hR)⟩
set_option maxHeartbeats 1000000 in
theorem st_decrees (yn : LandT) (ym : LandT) (yk : LandT) (yl : (Nat → Int32)) (yt : Int32) (yd : Int32) (yu : (Nat → Int32)) (ye : (Nat → Int32)) (yv : (Nat → Int32)) (yo : (Nat → Int64)) (y0 : (Nat → Int32)) (y1 : (Nat → Int32)) (yc : Int32) (yh : Int32) (xs : (Nat → Int32)) (xm : (Nat → Int32)) (xi : (Nat → Int32)) (xw : (Nat → Int32)) (xh : Int32) (xl : (Nat → Int32)) (xr : (Nat → Int32)) (xe : (Nat → Int32)) (xn : Int32) (xo : Int32) (xp : Int32) (xu : (Nat → Int32)) (xd : Int32) (v1 : Int32) (v2 : Int32) (v3 : Int32) (hI : Inv yn yk yl yt yu ye yc yh xs xi xh xl xr xe xn xo) : ∃ (ra : Int32 × LandT × (Nat → Int32)) (rb : Int32 × (Nat → Int32) × (Nat → Int32)), fX3_decrees v1 v2 v3 yn ye = some ra ∧ fX4_decrees v1 v2 v3 xs xe = some rb ∧ ra.1 = rb.1 ∧ Inv ra.2.1 yk yl yt yu ra.2.2 yc yh rb.2.1 xi xh xl xr rb.2.2 xn xo := by
  obtain ⟨⟨L, hS, hG, hR⟩, h2, h3, h4, h5⟩ := id hI
  have hV := hS.1
  have hN := hV.2.2.2.2.2.2.1
  unfold fX3_decrees fX4_decrees
  rcases cs_kind v1 with ⟨e1, e2⟩ | ⟨k, hk, rfl, e1, e2⟩
  · obtain ⟨u, w, q1, q2, q3⟩ := rf h5 (c := -2) (k := 2) (by omega) rfl
    rw [e1, e2, q1]
    simp only [Option.bind_some, if_true, if_neg (show ¬ (-2 : Int32) = 0 by decide)]
    rw [q2]
    exact ⟨_, _, rfl, rfl, rfl, inv_ref hI q3⟩
  · rw [e1, e2]
    simp only [Option.bind_some, if_neg n10]
    rcases cs_verdict v2 with ⟨e3, e4⟩ | ⟨d, hd, rfl, e3, e4⟩
    · obtain ⟨u, w, q1, q2, q3⟩ := rf h5 (c := -2) (k := 2) (by omega) rfl
      rw [e3, e4, q1]
      simp only [Option.bind_some, if_true, if_neg (show ¬ (-2 : Int32) = 0 by decide)]
      rw [q2]
      exact ⟨_, _, rfl, rfl, rfl, inv_ref hI q3⟩
    · rw [e3, e4]
      simp only [Option.bind_some, if_neg n10]
      rcases cs_rng v3 (b := 9) (by omega) with ⟨c, k', hk', hc, hc0, e5, e6, e7⟩ | ⟨q, hq, rfl, e5, e6⟩
      · obtain ⟨u, w, q1, q2, q3⟩ := rf h5 (c := c) (k := k') hk' hc
        rw [show fX3_isWithin v3 0 9 = some 0 from e5, show fX4_wrongBy v3 0 9 = some c from e6, e7]
        simp only [Option.bind_some, if_true, if_neg hc0, q1, q2]
        exact ⟨_, _, rfl, rfl, rfl, inv_ref hI q3⟩
      · rw [show fX3_isWithin (nI q) 0 9 = some 1 from e5, show fX4_wrongBy (nI q) 0 9 = some 0 from e6]
        simp (disch := omega) only [fX0_decree, Option.bind_some, if_neg n10, if_true, if_ob, cl, n20, n26]
        refine ⟨_, _, rfl, rfl, ?_, inv_land hI ⟨lv_sQ (lv_sV hV (by omega)) (by omega), hS.2⟩ (gg_sQ (gg_sV hG)) (rr_sQ (rr_sV hR hk) hk)⟩
        show 10 * gV yn k + gQ yn k = 10 * xs (20 + k) + xs (26 + k)
        rw [hG.2.2.2.2.2.1 k hk, hG.2.2.2.2.2.2.1 k hk, hR.2.2.2.2.2.1 k hk, hR.2.2.2.2.2.2.1 k hk]
set_option maxHeartbeats 1000000 in
theorem st_turn (yn : LandT) (ym : LandT) (yk : LandT) (yl : (Nat → Int32)) (yt : Int32) (yd : Int32) (yu : (Nat → Int32)) (ye : (Nat → Int32)) (yv : (Nat → Int32)) (yo : (Nat → Int64)) (y0 : (Nat → Int32)) (y1 : (Nat → Int32)) (yc : Int32) (yh : Int32) (xs : (Nat → Int32)) (xm : (Nat → Int32)) (xi : (Nat → Int32)) (xw : (Nat → Int32)) (xh : Int32) (xl : (Nat → Int32)) (xr : (Nat → Int32)) (xe : (Nat → Int32)) (xn : Int32) (xo : Int32) (xp : Int32) (xu : (Nat → Int32)) (xd : Int32) (v1 : Int32) (v2 : Int32) (v3 : Int32) (hI : Inv yn yk yl yt yu ye yc yh xs xi xh xl xr xe xn xo) : ∃ (ra : Int32 × LandT × (Nat → Int32)) (rb : Int32 × (Nat → Int32) × (Nat → Int32)), fX3_turn v1 v2 v3 yn ye = some ra ∧ fX4_turn v1 v2 v3 xs xe = some rb ∧ ra.1 = rb.1 ∧ Inv ra.2.1 yk yl yt yu ra.2.2 yc yh rb.2.1 xi xh xl xr rb.2.2 xn xo := by
  obtain ⟨⟨L, hS, hG, hR⟩, h2, h3, h4, h5⟩ := id hI
  have hV := hS.1
  have hN := hV.2.2.2.2.2.2.1
  unfold fX3_turn fX4_turn
  rcases cs_thing hG hR hN v1 with ⟨e1, e2⟩ | ⟨k, hk, rfl, e1, e2⟩
  · obtain ⟨u, w, q1, q2, q3⟩ := rf h5 (c := -1) (k := 1) (by omega) rfl
    rw [e1, e2, q1]
    simp only [Option.bind_some, if_true, if_neg (show ¬ (-1 : Int32) = 0 by decide)]
    rw [q2]
    exact ⟨_, _, rfl, rfl, rfl, inv_ref hI q3⟩
  · rw [e1, e2]
    simp only [Option.bind_some, if_neg n10]
    rcases cs_kind v2 with ⟨e3, e4⟩ | ⟨d, hd, rfl, e3, e4⟩
    · obtain ⟨u, w, q1, q2, q3⟩ := rf h5 (c := -2) (k := 2) (by omega) rfl
      rw [e3, e4, q1]
      simp only [Option.bind_some, if_true, if_neg (show ¬ (-2 : Int32) = 0 by decide)]
      rw [q2]
      exact ⟨_, _, rfl, rfl, rfl, inv_ref hI q3⟩
    · rw [e3, e4]
      simp only [Option.bind_some, if_neg n10]
      rcases cs_rng v3 (b := 9) (by omega) with ⟨c, k', hk', hc, hc0, e5, e6, e7⟩ | ⟨q, hq, rfl, e5, e6⟩
      · obtain ⟨u, w, q1, q2, q3⟩ := rf h5 (c := c) (k := k') hk' hc
        rw [show fX3_isWithin v3 0 9 = some 0 from e5, show fX4_wrongBy v3 0 9 = some c from e6, e7]
        simp only [Option.bind_some, if_true, if_neg hc0, q1, q2]
        exact ⟨_, _, rfl, rfl, rfl, inv_ref hI q3⟩
      · rw [show fX3_isWithin (nI q) 0 9 = some 1 from e5, show fX4_wrongBy (nI q) 0 9 = some 0 from e6, of_0, of_1]
        simp (disch := omega) only [Option.bind_some, if_neg n10, if_true, if_ob, cl]
        refine ⟨_, _, rfl, rfl, ?_, inv_land hI ⟨lv_sF (lv_sK hV hd) hq, hS.2⟩ (gg_sF (gg_sK hG)) (rr_sF (rr_sK hR (by omega)) (by omega))⟩
        show 10 * gK yn k + gF yn k = 10 * xs (32 + 3 * k) + xs (33 + 3 * k)
        rw [hG.2.2.1 k (by omega), hG.2.2.2.1 k (by omega), hR.2.2.2.2.2.2.2.1 k (by omega), hR.2.2.2.2.2.2.2.2.1 k (by omega)]
set_option maxHeartbeats 1000000 in
theorem st_clear (yn : LandT) (ym : LandT) (yk : LandT) (yl : (Nat → Int32)) (yt : Int32) (yd : Int32) (yu : (Nat → Int32)) (ye : (Nat → Int32)) (yv : (Nat → Int32)) (yo : (Nat → Int64)) (y0 : (Nat → Int32)) (y1 : (Nat → Int32)) (yc : Int32) (yh : Int32) (xs : (Nat → Int32)) (xm : (Nat → Int32)) (xi : (Nat → Int32)) (xw : (Nat → Int32)) (xh : Int32) (xl : (Nat → Int32)) (xr : (Nat → Int32)) (xe : (Nat → Int32)) (xn : Int32) (xo : Int32) (xp : Int32) (xu : (Nat → Int32)) (xd : Int32)  (hI : Inv yn yk yl yt yu ye yc yh xs xi xh xl xr xe xn xo) : ∃ (ra : Int32 × Int32) (rb : Int32 × Int32), fX3_clear yc = some ra ∧ fX4_clear xo = some rb ∧ ra.1 = rb.1 ∧ Inv yn yk yl yt yu ye ra.2 yh xs xi xh xl xr xe xn rb.2 := by
  exact ⟨_, _, rfl, rfl, (by obtain ⟨-, -, -, ⟨k, hk, e1, e2, -⟩, -⟩ := hI; rw [e1, e2]), ⟨hI.1, hI.2.1, hI.2.2.1, ⟨0, by omega, rfl, rfl, fun j hj => absurd hj (Nat.not_lt_zero j)⟩, hI.2.2.2.2⟩⟩
set_option maxHeartbeats 1000000 in
theorem st_image (yn : LandT) (ym : LandT) (yk : LandT) (yl : (Nat → Int32)) (yt : Int32) (yd : Int32) (yu : (Nat → Int32)) (ye : (Nat → Int32)) (yv : (Nat → Int32)) (yo : (Nat → Int64)) (y0 : (Nat → Int32)) (y1 : (Nat → Int32)) (yc : Int32) (yh : Int32) (xs : (Nat → Int32)) (xm : (Nat → Int32)) (xi : (Nat → Int32)) (xw : (Nat → Int32)) (xh : Int32) (xl : (Nat → Int32)) (xr : (Nat → Int32)) (xe : (Nat → Int32)) (xn : Int32) (xo : Int32) (xp : Int32) (xu : (Nat → Int32)) (xd : Int32)  (hI : Inv yn yk yl yt yu ye yc yh xs xi xh xl xr xe xn xo) : ∃ (ra : Int32 × LandT × Int32) (rb : Int32 × (Nat → Int32) × Int32), fX3_image yn yk yh = some ra ∧ fX4_image xs xi xh = some rb ∧ ra.1 = rb.1 ∧ Inv yn ra.2.1 yl yt yu ye yc ra.2.2 xs rb.2.1 rb.2.2 xl xr xe xn xo := by
  obtain ⟨⟨L, hS, hG, hR⟩, h2, h3, h4, h5⟩ := id hI
  have hV := hS.1
  have hN := hV.2.2.2.2.2.2.1
  unfold fX3_image fX4_image fX0_copyFrom
  obtain ⟨r', q1, q2⟩ := rx_copy (r2 := xi) hR
  rw [q1]
  exact ⟨_, _, rfl, rfl, hG.2.2.2.2.2.2.2.2.2.2.trans hR.2.1.symm, ⟨hI.1, Or.inr ⟨rfl, rfl, L, hS, hG, q2⟩, h3, h4, h5⟩⟩
set_option maxHeartbeats 1000000 in
theorem st_on (yn : LandT) (ym : LandT) (yk : LandT) (yl : (Nat → Int32)) (yt : Int32) (yd : Int32) (yu : (Nat → Int32)) (ye : (Nat → Int32)) (yv : (Nat → Int32)) (yo : (Nat → Int64)) (y0 : (Nat → Int32)) (y1 : (Nat → Int32)) (yc : Int32) (yh : Int32) (xs : (Nat → Int32)) (xm : (Nat → Int32)) (xi : (Nat → Int32)) (xw : (Nat → Int32)) (xh : Int32) (xl : (Nat → Int32)) (xr : (Nat → Int32)) (xe : (Nat → Int32)) (xn : Int32) (xo : Int32) (xp : Int32) (xu : (Nat → Int32)) (xd : Int32)  (hI : Inv yn yk yl yt yu ye yc yh xs xi xh xl xr xe xn xo) : ∃ (ra : Int32 × LandT × (Nat → Int32)) (rb : Int32 × (Nat → Int32) × (Nat → Int32)), fX3_on yn yk ye yh = some ra ∧ fX4_on xs xi xh xe = some rb ∧ ra.1 = rb.1 ∧ Inv ra.2.1 yk yl yt yu ra.2.2 yc yh rb.2.1 xi xh xl xr rb.2.2 xn xo := by
  obtain ⟨⟨L, hS, hG, hR⟩, h2, h3, h4, h5⟩ := id hI
  have hV := hS.1
  have hN := hV.2.2.2.2.2.2.1
  unfold fX3_on fX4_on fX0_copyFrom
  rcases h2 with ⟨e1, e2⟩ | ⟨e1, e2, L2, hS2, hG2, hR2⟩
  · obtain ⟨u, w, q1, q2, q3⟩ := rf h5 (c := -3) (k := 3) (by omega) rfl
    rw [if_pos e1, if_pos e2, q1, q2]
    exact ⟨_, _, rfl, rfl, rfl, inv_ref hI q3⟩
  · obtain ⟨r', q1, q2⟩ := rx_copy (r2 := xs) hR2
    rw [if_neg (by rw [e1]; decide), if_neg (by rw [e2]; decide), q1]
    exact ⟨_, _, rfl, rfl, hG2.2.2.2.2.2.2.2.2.2.2.trans q2.2.1.symm, inv_land hI hS2 hG2 q2⟩
set_option maxHeartbeats 1000000 in
theorem st_letter (yn : LandT) (ym : LandT) (yk : LandT) (yl : (Nat → Int32)) (yt : Int32) (yd : Int32) (yu : (Nat → Int32)) (ye : (Nat → Int32)) (yv : (Nat → Int32)) (yo : (Nat → Int64)) (y0 : (Nat → Int32)) (y1 : (Nat → Int32)) (yc : Int32) (yh : Int32) (xs : (Nat → Int32)) (xm : (Nat → Int32)) (xi : (Nat → Int32)) (xw : (Nat → Int32)) (xh : Int32) (xl : (Nat → Int32)) (xr : (Nat → Int32)) (xe : (Nat → Int32)) (xn : Int32) (xo : Int32) (xp : Int32) (xu : (Nat → Int32)) (xd : Int32) (v1 : Int32) (hI : Inv yn yk yl yt yu ye yc yh xs xi xh xl xr xe xn xo) : ∃ (ra : Int32 × (Nat → Int32) × Int32 × (Nat → Int32)) (rb : Int32 × (Nat → Int32) × (Nat → Int32) × Int32), fX3_letter v1 yl yt ye = some ra ∧ fX4_letter v1 xl xe xn = some rb ∧ ra.1 = rb.1 ∧ Inv yn yk ra.2.1 ra.2.2.1 yu ra.2.2.2 yc yh xs xi xh rb.2.1 xr rb.2.2.1 rb.2.2.2 xo := by
  obtain ⟨⟨L, hS, hG, hR⟩, h2, h3, h4, h5⟩ := id hI
  have hV := hS.1
  have hN := hV.2.2.2.2.2.2.1
  obtain ⟨k, hk, e1, e2, hl⟩ := h3
  unfold fX3_letter fX4_letter fX1_add fX1_isFull
  by_cases c1 : (0 : Int32) ≤ v1
  · rw [if_pos c1, if_pos c1]
    by_cases c2 : (255 : Int32) < v1
    · obtain ⟨u, w, q1, q2, q3⟩ := rf h5 (c := -6) (k := 6) (by omega) rfl
      rw [if_pos c2, if_pos c2, q1, q2]
      exact ⟨_, _, rfl, rfl, rfl, inv_ref hI q3⟩
    · obtain ⟨a, ha, rfl⟩ := nI_of (Int32.not_lt.mpr c1)
      have ha2 : a < 256 := by
        have : ¬ 255 < a := fun q => c2 ((n_lt (a := 255) (by omega) ha).mpr q)
        omega
      rw [if_neg c2, if_neg c2]
      subst e1; subst e2
      rw [if_ltn (v := 96) (k := 96) rfl rfl (by omega) (by omega), if_eqn (v := 96) (k := 96) rfl (by omega) (by omega)]
      by_cases c3 : k = 96
      · obtain ⟨u, w, q1, q2, q3⟩ := rf h5 (c := -6) (k := 6) (by omega) rfl
        rw [if_neg (by omega), if_pos c3, q1, q2]
        exact ⟨_, _, rfl, rfl, rfl, inv_ref hI q3⟩
      · rw [if_pos (by omega), if_neg c3]
        simp (disch := omega) only [Option.bind_some, if_pos n00, if_ob, cl, nI_1]
        refine ⟨_, _, rfl, rfl, rfl, ⟨hI.1, hI.2.1, ⟨k + 1, by omega, rfl, rfl, ?_⟩, h4, h5⟩⟩
        intro j hj
        by_cases e : j = k
        · subst e
          exact ⟨a, ha2, pk_us, pk_us⟩
        · obtain ⟨v, g1, g2, g3⟩ := hl j (by omega)
          exact ⟨v, g1, (pk_un e).trans g2, (pk_un e).trans g3⟩
  · obtain ⟨u, w, q1, q2, q3⟩ := rf h5 (c := -4) (k := 4) (by omega) rfl
    rw [if_neg c1, if_neg c1, q1, q2]
    exact ⟨_, _, rfl, rfl, rfl, inv_ref hI q3⟩
set_option maxHeartbeats 1000000 in
theorem st_row (yn : LandT) (ym : LandT) (yk : LandT) (yl : (Nat → Int32)) (yt : Int32) (yd : Int32) (yu : (Nat → Int32)) (ye : (Nat → Int32)) (yv : (Nat → Int32)) (yo : (Nat → Int64)) (y0 : (Nat → Int32)) (y1 : (Nat → Int32)) (yc : Int32) (yh : Int32) (xs : (Nat → Int32)) (xm : (Nat → Int32)) (xi : (Nat → Int32)) (xw : (Nat → Int32)) (xh : Int32) (xl : (Nat → Int32)) (xr : (Nat → Int32)) (xe : (Nat → Int32)) (xn : Int32) (xo : Int32) (xp : Int32) (xu : (Nat → Int32)) (xd : Int32) (v1 : Int32) (hI : Inv yn yk yl yt yu ye yc yh xs xi xh xl xr xe xn xo) : ∃ (ra : Int32 × (Nat → Int32) × (Nat → Int32) × Int32) (rb : Int32 × (Nat → Int32) × (Nat → Int32) × Int32), fX3_row v1 yu ye yc = some ra ∧ fX4_row v1 xr xe xo = some rb ∧ ra.1 = rb.1 ∧ Inv yn yk yl yt ra.2.1 ra.2.2.1 ra.2.2.2 yh xs xi xh xl rb.2.1 rb.2.2.1 xn rb.2.2.2 := by
  obtain ⟨⟨L, hS, hG, hR⟩, h2, h3, h4, h5⟩ := id hI
  have hV := hS.1
  have hN := hV.2.2.2.2.2.2.1
  obtain ⟨k, hk, e1, e2, hl⟩ := h4
  subst e1; subst e2
  unfold fX3_row fX4_row fX4_wrongBy
  by_cases c1 : (0 : Int32) ≤ v1
  · obtain ⟨a, ha, rfl⟩ := nI_of (Int32.not_lt.mpr c1)
    rw [if_pos c1, if_pos c1, if_ltn (u := 99) (a := 99) rfl rfl (by omega) (by omega), if_len (v := 99) (k := 99) rfl rfl (by omega) (by omega)]
    by_cases c2 : 99 < a
    · obtain ⟨u, w, q1, q2, q3⟩ := rf h5 (c := -6) (k := 6) (by omega) rfl
      rw [if_pos c2, if_neg (by omega), q1]
      simp only [Option.bind_some, if_neg (show ¬ (-6 : Int32) = 0 by decide)]
      rw [q2]
      exact ⟨_, _, rfl, rfl, rfl, inv_ref hI q3⟩
    · rw [if_neg c2, if_pos (show a ≤ 99 by omega)]
      simp only [Option.bind_some, if_true]
      rw [if_ltn (v := 16) (k := 16) rfl rfl (by omega) (by omega), if_eqn (v := 16) (k := 16) rfl (by omega) (by omega)]
      by_cases c3 : k = 16
      · obtain ⟨u, w, q1, q2, q3⟩ := rf h5 (c := -6) (k := 6) (by omega) rfl
        rw [if_neg (by omega), if_pos c3, q1]
        simp only [Option.bind_some, if_neg (show ¬ (-6 : Int32) = 0 by decide)]
        rw [q2]
        exact ⟨_, _, rfl, rfl, rfl, inv_ref hI q3⟩
      · rw [if_pos (by omega), if_neg c3]
        simp (disch := omega) only [Option.bind_some, if_pos n00, if_ob, cl, nI_1]
        refine ⟨_, _, rfl, rfl, rfl, ⟨hI.1, hI.2.1, h3, ⟨k + 1, by omega, rfl, rfl, ?_⟩, h5⟩⟩
        intro j hj
        by_cases e : j = k
        · subst e
          exact ⟨a, by omega, pk_us, pk_us⟩
        · obtain ⟨v, g1, g2, g3⟩ := hl j (by omega)
          exact ⟨v, g1, (pk_un e).trans g2, (pk_un e).trans g3⟩
  · obtain ⟨u, w, q1, q2, q3⟩ := rf h5 (c := -4) (k := 4) (by omega) rfl
    rw [if_neg c1, if_neg c1, q1]
    simp only [Option.bind_some, if_neg (show ¬ (-4 : Int32) = 0 by decide)]
    rw [q2]
    exact ⟨_, _, rfl, rfl, rfl, inv_ref hI q3⟩
set_option maxHeartbeats 1000000 in
theorem st_branches (yn : LandT) (ym : LandT) (yk : LandT) (yl : (Nat → Int32)) (yt : Int32) (yd : Int32) (yu : (Nat → Int32)) (ye : (Nat → Int32)) (yv : (Nat → Int32)) (yo : (Nat → Int64)) (y0 : (Nat → Int32)) (y1 : (Nat → Int32)) (yc : Int32) (yh : Int32) (xs : (Nat → Int32)) (xm : (Nat → Int32)) (xi : (Nat → Int32)) (xw : (Nat → Int32)) (xh : Int32) (xl : (Nat → Int32)) (xr : (Nat → Int32)) (xe : (Nat → Int32)) (xn : Int32) (xo : Int32) (xp : Int32) (xu : (Nat → Int32)) (xd : Int32) (v1 : Int32) (hI : Inv yn yk yl yt yu ye yc yh xs xi xh xl xr xe xn xo) : ∃ (ra : Int32 × (Nat → Int32)) (rb : Int32 × (Nat → Int32)), fX3_branches v1 yn ye = some ra ∧ fX4_branches v1 xs xe = some rb ∧ ra.1 = rb.1 ∧ Inv yn yk yl yt yu ra.2 yc yh xs xi xh xl xr rb.2 xn xo := by
  obtain ⟨⟨L, hS, hG, hR⟩, h2, h3, h4, h5⟩ := id hI
  have hV := hS.1
  have hN := hV.2.2.2.2.2.2.1
  unfold fX3_branches fX4_branches
  rcases cs_verdict v1 with ⟨e1, e2⟩ | ⟨k, hk, rfl, e1, e2⟩
  · obtain ⟨u, w, q1, q2, q3⟩ := rf h5 (c := -2) (k := 2) (by omega) rfl
    rw [e1, e2, q1, q2]
    exact ⟨_, _, rfl, rfl, rfl, inv_ref hI q3⟩
  · rw [e1, e2, gx_brs hG hV (by omega), rx_brs hR hV (by omega)]
    exact ⟨_, _, rfl, rfl, rfl, hI⟩
set_option maxHeartbeats 1000000 in
theorem st_thing (yn : LandT) (ym : LandT) (yk : LandT) (yl : (Nat → Int32)) (yt : Int32) (yd : Int32) (yu : (Nat → Int32)) (ye : (Nat → Int32)) (yv : (Nat → Int32)) (yo : (Nat → Int64)) (y0 : (Nat → Int32)) (y1 : (Nat → Int32)) (yc : Int32) (yh : Int32) (xs : (Nat → Int32)) (xm : (Nat → Int32)) (xi : (Nat → Int32)) (xw : (Nat → Int32)) (xh : Int32) (xl : (Nat → Int32)) (xr : (Nat → Int32)) (xe : (Nat → Int32)) (xn : Int32) (xo : Int32) (xp : Int32) (xu : (Nat → Int32)) (xd : Int32) (v1 : Int32) (v2 : Int32) (hI : Inv yn yk yl yt yu ye yc yh xs xi xh xl xr xe xn xo) : ∃ (ra : Int32 × (Nat → Int32)) (rb : Int32 × (Nat → Int32)), fX3_thing v1 v2 yn ye = some ra ∧ fX4_thing v1 v2 xs xe = some rb ∧ ra.1 = rb.1 ∧ Inv yn yk yl yt yu ra.2 yc yh xs xi xh xl xr rb.2 xn xo := by
  obtain ⟨⟨L, hS, hG, hR⟩, h2, h3, h4, h5⟩ := id hI
  have hV := hS.1
  have hN := hV.2.2.2.2.2.2.1
  have hT9 := hS.2
  unfold fX3_thing fX4_thing
  rcases cs_thing hG hR hN v1 with ⟨e1, e2⟩ | ⟨k, hk, rfl, e1, e2⟩
  · obtain ⟨u, w, q1, q2, q3⟩ := rf h5 (c := -1) (k := 1) (by omega) rfl
    rw [e1, e2, q1, q2]
    exact ⟨_, _, rfl, rfl, rfl, inv_ref hI q3⟩
  · have hD := hV.2.2.2.2.2.2.2.1
    rw [e1, e2]
    simp only [Option.bind_some, if_neg n10]
    by_cases c0 : v2 = 0
    · subst c0
      rw [if_pos rfl, if_pos rfl, of_0]
      simp (disch := omega) only [Option.bind_some, if_ob, cl]
      exact ⟨_, _, rfl, rfl, (hG.2.2.1 k (by omega)).trans (hR.2.2.2.2.2.2.2.1 k (by omega)).symm, hI⟩
    rw [if_neg c0, if_neg c0]
    by_cases c1 : v2 = 1
    · subst c1
      rw [if_pos rfl, if_pos rfl, of_1]
      simp (disch := omega) only [Option.bind_some, if_ob, cl]
      exact ⟨_, _, rfl, rfl, (hG.2.2.2.1 k (by omega)).trans (hR.2.2.2.2.2.2.2.2.1 k (by omega)).symm, hI⟩
    rw [if_neg c1, if_neg c1]
    by_cases c2 : v2 = 2
    · subst c2
      rw [if_pos rfl, if_pos rfl, of_2]
      simp (disch := omega) only [Option.bind_some, if_ob, cl]
      exact ⟨_, _, rfl, rfl, (hG.2.2.2.2.1 k (by omega)).trans (hR.2.2.2.2.2.2.2.2.2 k (by omega)).symm, hI⟩
    rw [if_neg c2, if_neg c2]
    by_cases c3 : v2 = 3
    · rw [if_pos c3, if_pos c3, cl_3, hR.2.2.2.1, n_shr (by omega) (by omega)]
      unfold fX0_isHidden
      rw [hG.2.2.2.2.2.2.2.2.1]
      by_cases hb : (eD L).testBit k = true
      · rw [if_pos ((n_bit (by omega) (by omega)).mpr hb), (tb_iff _ _).mpr hb]
        exact ⟨_, _, rfl, rfl, rfl, hI⟩
      · have hb2 : eD L / 2 ^ k % 2 = 0 := by
          have this : ¬ eD L / 2 ^ k % 2 = 1 := fun q => hb ((tb_iff (eD L) k).mp q)
          generalize eD L / 2 ^ k = z at this ⊢
          omega
        rw [if_neg (fun q => hb ((n_bit (by omega) (by omega)).mp q)), hb2]
        exact ⟨_, _, rfl, rfl, rfl, hI⟩
    rw [if_neg c3, if_neg c3]
    by_cases c4 : v2 = 4
    · rw [if_pos c4, if_pos c4, gx_top hG hV (by omega), rx_top hR hV (by omega)]
      exact ⟨_, _, rfl, rfl, rfl, hI⟩
    rw [if_neg c4, if_neg c4]
    by_cases c5 : v2 = 5
    · rw [if_pos c5, if_pos c5, hG.2.2.2.2.2.2.2.2.2.2, nI_1, gx_steps hG hV (by omega) (by omega), of_0, of_1]
      simp (disch := omega) only [Option.bind_some, if_ob, cl, cl_1]
      rw [hR.2.1, nI_1, hR.2.2.2.2.2.2.2.1 k (by omega), hR.2.2.2.2.2.2.2.2.1 k (by omega), goes_eq (hV.2.1 k) (hV.2.2.1 k) (by omega)]
      exact ⟨_, _, rfl, rfl, rfl, hI⟩
    · obtain ⟨u, w, q1, q2, q3⟩ := rf h5 (c := -2) (k := 2) (by omega) rfl
      rw [if_neg c5, if_neg c5, q1, q2]
      exact ⟨_, _, rfl, rfl, rfl, inv_ref hI q3⟩
