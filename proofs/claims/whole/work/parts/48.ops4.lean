/-! ===== the steps: rows, counts, parts, lots ===== -/
theorem isCell_t {i : Nat} (hi : i < 16) : fX3_isCell (nI i) = some 1 := by
  unfold fX3_isCell
  rw [isW_eq, show fX4_isIn (nI i) 0 15 = some 1 from isIn_t (a := 0) (b := 15) rfl (Nat.zero_le i) (by omega) (by omega)]
  rfl
def sumN (f : Nat → Nat) : Nat → Nat
  | 0 => 0
  | k + 1 => sumN f k + f k
theorem sumN_le {f : Nat → Nat} {M : Nat} (h : ∀ k, f k ≤ M) : ∀ k, sumN f k ≤ k * M
  | 0 => Nat.zero_le _
  | k + 1 => by
    have h1 := sumN_le h k
    have h2 := h k
    show sumN f k + f k ≤ (k + 1) * M
    rw [Nat.succ_mul]
    omega
theorem gx_sum {r : Nat → Int32} {f : Nat → Nat} {n : Nat} (hn : n < 100) (h : ∀ k, k < n → r k = nI (f k)) : fX3_sumOf n r = some (nI (sumN f n)) := by
  unfold fX3_sumOf
  have hL : lp (bX3_sumOf_10 r n) fu (0, 0) = some (nI (sumN f n)) := by
    refine lp_fu (fun i => (nI (sumN f i), nI i)) n _ rfl ?_ ?_ (by omega)
    · intro i hi
      dsimp only [bX3_sumOf_10]
      rw [if_len rfl rfl (by omega) (by omega), if_neg (by omega), if_ob hi (by omega), cl (by omega), h i hi, nI_add, nI_1]
      rfl
    · dsimp only [bX3_sumOf_10]
      rw [if_len rfl rfl (by omega) (by omega), if_pos (Nat.le_refl n)]
  rw [hL]
  rfl
theorem rx_sumH {r : Nat → Int32} {L : LdN} (hR : RR r L) : fX4_allHeights r = some (nI (sumN (eH L) 16)) := by
  unfold fX4_allHeights
  have hL : lp (bX4_allHeights_4 r) fu (0, 0) = some (nI (sumN (eH L) 16)) := by
    refine lp_fu (fun i => (nI (sumN (eH L) i), nI i)) 16 _ rfl ?_ ?_ (by omega)
    · intro i hi
      dsimp only [bX4_allHeights_4]
      rw [if_len (u := 16) (a := 16) rfl rfl (by omega) (by omega), if_neg (by omega), n4, if_ob (show 4 + i < 53 by omega) (by omega), cl (by omega), hR.2.2.2.2.1 i hi, nI_add, nI_1]
      rfl
    · rfl
  rw [hL]
  rfl
theorem rx_sumQ {r : Nat → Int32} {L : LdN} (hR : RR r L) : lp (bX4_count_86 r) fu (0, 0) = some (nI (sumN (eQ L) 6)) := by
  refine lp_fu (fun i => (nI (sumN (eQ L) i), nI i)) 6 _ rfl ?_ ?_ (by omega)
  · intro i hi
    dsimp only [bX4_count_86]
    rw [if_len (u := 6) (a := 6) rfl rfl (by omega) (by omega), if_neg (by omega), n26, if_ob (show 26 + i < 53 by omega) (by omega), cl (by omega), hR.2.2.2.2.2.2.1 i hi, nI_add, nI_1]
    rfl
  · rfl
theorem half_mod {x y : Nat} (h0 : 0 < y) (h : y ≤ x) : 2 * (x % y) ≤ x := by
  have h1 := Nat.div_add_mod x y
  have h2 : 1 ≤ x / y := Nat.div_pos h h0
  have h3 : y ≤ y * (x / y) := Nat.le_mul_of_pos_right y h2
  have h4 := Nat.mod_lt x h0
  omega
theorem lg0 {x : Nat} (hx : x < 2 ^ 62) : (lg_cmp (lN x) 0 = 0) ↔ x = 0 := by
  rw [lg_cmp_eq]
  exact pk_lEQ (a := x) (b := 0) (by omega) (by omega)
theorem bx_gcd {a b : Nat} (ha : a < 2 ^ 31) (hb0 : 0 < b) (hb : b < 2 ^ 31) : ∃ d, 0 < d ∧ d < 2 ^ 31 ∧ (a = 0 → d = b) ∧ fX3_commonDivisor (lN a) (lN b) = some (lN d) ∧ fX4_gcd (lN a) (lN b) = some (lN d) := by
  unfold fX3_commonDivisor fX4_gcd
  obtain ⟨X, Y, h1, h2, d, h3, h4, h5, rfl, rfl⟩ := lp_sim (bA := bX3_commonDivisor_9) (bB := bX4_gcd_6) (a := (lN a, lN b, 0)) (b := (lN a, lN b)) (fun i s s' => ∃ x y, s = (lN x, lN y, nI i) ∧ s' = (lN x, lN y) ∧ x < 2 ^ 31 ∧ y < 2 ^ 31 ∧ (0 < x ∨ 0 < y) ∧ (a = 0 → (x = 0 ∧ y = b) ∨ (x = b ∧ y = 0)) ∧ (i = 0 ∨ (y < x ∧ x * y * 2 ^ i ≤ 2 ^ 64))) (fun X Y => ∃ d, 0 < d ∧ d < 2 ^ 31 ∧ (a = 0 → d = b) ∧ X = lN d ∧ Y = lN d) 100 (by omega) (by
    rintro i s s' hi ⟨x, y, rfl, rfl, hx, hy, hp, hz, hb2⟩
    dsimp only [bX3_commonDivisor_9, bX4_gcd_6]
    rw [if_len (u := 100) (a := 100) rfl rfl (by omega) (by omega)]
    by_cases h0 : y = 0
    · rw [if_pos ((lg0 (x := y) (by omega)).mpr h0), if_pos ((lg0 (x := y) (by omega)).mpr h0)]
      refine Or.inr ⟨lN x, lN x, by split <;> rfl, rfl, x, by omega, hx, fun q => ?_, rfl, rfl⟩
      rcases hz q with ⟨-, h⟩ | ⟨h, -⟩
      · omega
      · exact h
    · have hy0 : 0 < y := by omega
      have hi2 : i ≤ 64 := by
        rcases hb2 with h | ⟨h, h'⟩
        · omega
        · by_cases q : i ≤ 64
          · exact q
          · exfalso
            have q1 : 2 ^ 65 ≤ 2 ^ i := Nat.pow_le_pow_right (by omega) (by omega)
            have q2 : 1 ≤ x * y := Nat.mul_pos (by omega) hy0
            have q3 : 1 * 2 ^ i ≤ x * y * 2 ^ i := Nat.mul_le_mul_right _ q2
            omega
      have hne : ¬ lN y = 0 := fun q => h0 ((pk_lEQ (a := y) (b := 0) (by omega) (by omega)).mp q)
      have hr : lrem (lN x) (lN y) = lN (x % y) := pk_lRem (by omega) hy0 (by omega)
      have hm := Nat.mod_lt x hy0
      rw [if_neg (show ¬ 100 ≤ i by omega), if_neg (fun q => h0 ((lg0 (x := y) (by omega)).mp q)), if_neg (fun q => h0 ((lg0 (x := y) (by omega)).mp q)), if_neg hne, if_neg hne, hr, nI_1]
      refine Or.inl ⟨by omega, _, _, rfl, rfl, y, x % y, rfl, rfl, hy, by omega, Or.inl hy0, fun q => ?_, Or.inr ⟨hm, ?_⟩⟩
      · rcases hz q with ⟨h, h'⟩ | ⟨-, h⟩
        · refine Or.inr ⟨h', ?_⟩
          rw [h, Nat.zero_mod]
        · omega
      · rcases hb2 with rfl | ⟨h, h'⟩
        · have q1 : y * (x % y) ≤ 2 ^ 31 * 2 ^ 31 := Nat.mul_le_mul (by omega) (by omega)
          rw [show (2 : Nat) ^ (0 + 1) = 2 from rfl]
          omega
        · have q1 := half_mod hy0 (Nat.le_of_lt h)
          have q2 : y * (2 * (x % y)) ≤ y * x := Nat.mul_le_mul_left y q1
          have q3 : y * (2 * (x % y)) * 2 ^ i ≤ y * x * 2 ^ i := Nat.mul_le_mul_right _ q2
          have q4 : y * (x % y) * 2 ^ (i + 1) = y * (2 * (x % y)) * 2 ^ i := by
            rw [Nat.pow_succ, Nat.mul_left_comm y 2, Nat.mul_comm 2 (y * (x % y)), Nat.mul_assoc (y * (x % y)) 2, Nat.mul_comm 2 (2 ^ i)]
          rw [q4]
          rw [Nat.mul_comm x y] at h'
          exact Nat.le_trans q3 h') ⟨a, b, rfl, rfl, ha, hb, Or.inr hb0, fun q => Or.inl ⟨q, rfl⟩, Or.inl rfl⟩
  rw [h1, h2]
  exact ⟨d, h3, h4, h5, rfl, rfl⟩
theorem bx_part {a b w : Nat} (ha : a < 2 ^ 31) (hb0 : 0 < b) (hb : b < 2 ^ 31) (hw : w < 2) : ∃ z, fX3_partOf (lN a) (lN b) (nI w) = some z ∧ fX4_partOf (lN a) (lN b) (nI w) = some z := by
  obtain ⟨d, hd0, hd, hz, q1, q2⟩ := bx_gcd ha hb0 hb
  have hne : ¬ lN d = 0 := fun q => by
    have := (pk_lEQ (a := d) (b := 0) (by omega) (by omega)).mp q
    omega
  have hl : ¬ lg_cmp (lN d) 0 = 0 := fun q => by
    have := (lg0 (x := d) (by omega)).mp q
    omega
  have hw' : w = 0 ∨ w = 1 := by omega
  unfold fX3_partOf fX4_partOf
  rw [q1, q2]
  rcases hw' with rfl | rfl
  · simp only [bsm, if_pos (show nI 0 = 0 from rfl), if_neg hl, if_neg hne]
    by_cases h0 : a = 0
    · have hdb := hz h0
      subst hdb
      rw [if_pos ((lg0 (by omega)).mpr h0), nI_l (by omega), pk_lDiv (by omega) hd0 (by omega), h0, Nat.zero_div]
      exact ⟨_, rfl, rfl⟩
    · rw [if_neg (fun q => h0 ((lg0 (by omega)).mp q))]
      exact ⟨_, rfl, rfl⟩
  · simp only [bsm, if_neg (show ¬ nI 1 = 0 from n10), if_neg hl, if_neg hne]
    by_cases h0 : a = 0
    · have hdb := hz h0
      subst hdb
      rw [if_pos ((lg0 (by omega)).mpr h0), nI_l (by omega), pk_lDiv (by omega) hd0 (by omega), Nat.div_self hd0]
      exact ⟨_, rfl, rfl⟩
    · rw [if_neg (fun q => h0 ((lg0 (by omega)).mp q))]
      exact ⟨_, rfl, rfl⟩
theorem rfw {ye xe : Nat → Int32} (h : ∀ j, j < 7 → ye j = xe j) {c : Int32} {k : Nat} (hk : k < 7) (hc : -c = nI k) : ∃ z u w, fX3_refuseLong c ye = some (z, u) ∧ fX4_noWide c xe = some (z, w) ∧ ∀ j, j < 7 → u j = w j := by
  obtain ⟨u, w, q1, q2, q3⟩ := rf h hk hc
  unfold fX3_refuseLong fX4_noWide
  rw [q1, q2]
  exact ⟨_, u, w, rfl, rfl, q3⟩
set_option maxHeartbeats 2000000 in
theorem st_judge (yn : LandT) (ym : LandT) (yk : LandT) (yl : (Nat → Int32)) (yt : Int32) (yd : Int32) (yu : (Nat → Int32)) (ye : (Nat → Int32)) (yv : (Nat → Int32)) (yo : (Nat → Int64)) (y0 : (Nat → Int32)) (y1 : (Nat → Int32)) (yc : Int32) (yh : Int32) (xs : (Nat → Int32)) (xm : (Nat → Int32)) (xi : (Nat → Int32)) (xw : (Nat → Int32)) (xh : Int32) (xl : (Nat → Int32)) (xr : (Nat → Int32)) (xe : (Nat → Int32)) (xn : Int32) (xo : Int32) (xp : Int32) (xu : (Nat → Int32)) (xd : Int32)  (hI : Inv yn yk yl yt yu ye yc yh xs xi xh xl xr xe xn xo) : ∃ (ra : Int32 × Int32) (rb : Int32 × Int32), fX3_judge yn yu yc = some ra ∧ fX4_judge xs xr xo = some rb ∧ ra.1 = rb.1 ∧ Inv yn yk yl yt yu ye ra.2 yh xs xi xh xl xr xe xn rb.2 := by
  obtain ⟨⟨L, hS, hG, hR⟩, h2, h3, h4, h5⟩ := id hI
  have hV := hS.1
  have hT := hS.2
  have hN := hV.2.2.2.2.2.2.1
  obtain ⟨k, hk, rfl, rfl, hl⟩ := h4
  have hrow : ∀ j, j < k → yu j = xr j := fun j hj => by
    obtain ⟨v, -, g1, g2⟩ := hl j hj
    rw [g1, g2]
  unfold fX3_judge fX4_judge fX3_firstHeightNotSo
  obtain ⟨x, y, h6, h7, h8⟩ := lp_sim (bA := bX3_firstHeightNotSo_2 yn yu (nI k)) (bB := bX4_judge_12 xs xr (nI k)) (a := 0) (b := 0) (fun i s s' => s = nI i ∧ s' = nI i) (fun x y => (∃ j, x = .inl j ∧ y = .inl (j, 0)) ∨ (x = .inr () ∧ y = .inr ())) k (by omega) (by
    rintro i s s' hi ⟨rfl, rfl⟩
    dsimp only [bX3_firstHeightNotSo_2, bX4_judge_12]
    rw [if_len rfl rfl (by omega) (by omega), if_len rfl rfl (by omega) (by omega)]
    by_cases h : k ≤ i
    · rw [if_pos h, if_pos h]
      exact Or.inr ⟨_, _, rfl, rfl, Or.inr ⟨rfl, rfl⟩⟩
    · rw [if_neg h, if_neg h, isCell_t (by omega)]
      simp only [bsm, i_n1]
      rw [if_ob (show i < 16 by omega) (by omega), if_ob (show i < 16 by omega) (by omega), if_ob (show i < 16 by omega) (by omega), n4, if_ob (show 4 + i < 53 by omega) (by omega), cl (by omega), cl (by omega), hG.1 i (by omega), hR.2.2.2.2.1 i (by omega), hrow i (by omega), nI_1]
      by_cases h2 : nI (eH L i) = xr i
      · rw [if_pos h2, if_pos h2]
        exact Or.inl ⟨by omega, _, _, rfl, rfl, rfl, rfl⟩
      · rw [if_neg h2, if_neg h2]
        exact Or.inr ⟨_, _, rfl, rfl, Or.inl ⟨_, rfl, rfl⟩⟩) ⟨rfl, rfl⟩
  have hE : Inv yn yk yl yt yu ye 0 yh xs xi xh xl xr xe xn 0 := ⟨hI.1, hI.2.1, hI.2.2.1, ⟨0, by omega, rfl, rfl, fun j hj => absurd hj (Nat.not_lt_zero j)⟩, h5⟩
  rw [h6, h7]
  rcases h8 with ⟨j, rfl, rfl⟩ | ⟨rfl, rfl⟩
  · exact ⟨_, _, rfl, rfl, rfl, hE⟩
  · exact ⟨_, _, rfl, rfl, rfl, hE⟩
set_option maxHeartbeats 2000000 in
theorem st_count (yn : LandT) (ym : LandT) (yk : LandT) (yl : (Nat → Int32)) (yt : Int32) (yd : Int32) (yu : (Nat → Int32)) (ye : (Nat → Int32)) (yv : (Nat → Int32)) (yo : (Nat → Int64)) (y0 : (Nat → Int32)) (y1 : (Nat → Int32)) (yc : Int32) (yh : Int32) (xs : (Nat → Int32)) (xm : (Nat → Int32)) (xi : (Nat → Int32)) (xw : (Nat → Int32)) (xh : Int32) (xl : (Nat → Int32)) (xr : (Nat → Int32)) (xe : (Nat → Int32)) (xn : Int32) (xo : Int32) (xp : Int32) (xu : (Nat → Int32)) (xd : Int32) (v1 : Int32) (hI : Inv yn yk yl yt yu ye yc yh xs xi xh xl xr xe xn xo) : ∃ (ra : Int32) (rb : Int32), fX3_count v1 yn yt ye yc = some ra ∧ fX4_count v1 xs xe xn xo = some rb ∧ ra = rb ∧ Inv yn yk yl yt yu ye yc yh xs xi xh xl xr xe xn xo := by
  obtain ⟨⟨L, hS, hG, hR⟩, h2, h3, h4, h5⟩ := id hI
  have hV := hS.1
  have hT := hS.2
  have hN := hV.2.2.2.2.2.2.1
  have hl3 := hI.2.2.1
  obtain ⟨k3, hk3, rfl, rfl, -⟩ := h3
  obtain ⟨k4, hk4, rfl, rfl, -⟩ := h4
  unfold fX3_count fX4_count fX3_refusalsOf
  rw [isW_eq]
  rcases isIn_cases v1 (a := 11) (b := 16) (by omega) (by omega) with ⟨e1, -⟩ | ⟨e1, k, hk1, hk2, rfl⟩
  · rw [show fX4_isIn v1 11 16 = some 0 from e1]
    simp only [bsm, if_true, i_n1, i_m1, i_m2, i_m4, i_m6]
    by_cases c0 : v1 = 0
    · subst c0
      rw [if_pos rfl, if_pos rfl, if_neg (show ¬ ob 0 53 by decide), cl_0]
      exact ⟨_, _, rfl, rfl, hG.2.2.2.2.2.2.2.1.trans hR.1.symm, hI⟩
    rw [if_neg c0, if_neg c0]
    by_cases c1 : v1 = 1
    · subst c1
      rw [if_pos rfl, if_pos rfl, if_neg (show ¬ ob 1 53 by decide), cl_1]
      exact ⟨_, _, rfl, rfl, hG.2.2.2.2.2.2.2.2.2.2.trans hR.2.1.symm, hI⟩
    rw [if_neg c1, if_neg c1]
    by_cases c2 : v1 = 2
    · subst c2
      rw [if_pos rfl, if_pos rfl, if_neg (show ¬ ob 2 53 by decide), cl_2]
      exact ⟨_, _, rfl, rfl, hG.2.2.2.2.2.2.2.2.2.1.trans hR.2.2.1.symm, hI⟩
    rw [if_neg c2, if_neg c2]
    by_cases c3 : v1 = 3
    · subst c3
      rw [if_pos rfl, if_pos rfl, if_neg (show ¬ ob 3 53 by decide), cl_3]
      exact ⟨_, _, rfl, rfl, hG.2.2.2.2.2.2.2.2.1.trans hR.2.2.2.1.symm, hI⟩
    rw [if_neg c3, if_neg c3]
    by_cases c4 : v1 = 4
    · rw [if_pos c4, if_pos c4, gx_sum (f := eH L) (by omega) hG.1, rx_sumH hR]
      exact ⟨_, _, rfl, rfl, rfl, hI⟩
    rw [if_neg c4, if_neg c4]
    by_cases c5 : v1 = 5
    · rw [if_pos c5, if_pos c5, gx_sum (f := eQ L) (by omega) hG.2.2.2.2.2.2.1, rx_sumQ hR]
      exact ⟨_, _, rfl, rfl, rfl, hI⟩
    rw [if_neg c5, if_neg c5]
    by_cases c6 : v1 = 6
    · rw [if_pos c6]
      exact ⟨_, _, rfl, rfl, rfl, hI⟩
    rw [if_neg c6]
    by_cases c7 : v1 = 7
    · rw [if_pos c7]
      exact ⟨_, _, rfl, rfl, rfl, hI⟩
    rw [if_neg c7]
    exact ⟨_, _, rfl, rfl, rfl, hI⟩
  · rw [show fX4_isIn (nI k) 11 16 = some 1 from e1]
    simp only [bsm, if_true, i_n1, i_m1, i_m2, i_m4, i_m6]
    rw [if_eqn (v := 0) (k := 0) rfl (by omega) (by omega), if_neg (by omega), if_eqn (v := 1) (k := 1) rfl (by omega) (by omega), if_neg (by omega), if_eqn (v := 2) (k := 2) rfl (by omega) (by omega), if_neg (by omega), if_eqn (v := 3) (k := 3) rfl (by omega) (by omega), if_neg (by omega), if_eqn (v := 4) (k := 4) rfl (by omega) (by omega), if_neg (by omega), if_eqn (v := 5) (k := 5) rfl (by omega) (by omega), if_neg (by omega), if_eqn (v := 6) (k := 6) rfl (by omega) (by omega), if_neg (by omega), if_eqn (v := 7) (k := 7) rfl (by omega) (by omega), if_neg (by omega), show nI k - 10 = nI (k - 10) from pk_sub (b := 10) (by omega), if_ob (show k - 10 < 7 by omega) (by omega), if_ob (show k - 10 < 7 by omega) (by omega), cl (by omega)]
    exact ⟨_, _, rfl, rfl, h5 (k - 10) (by omega), hI⟩
set_option maxHeartbeats 2000000 in
theorem st_mean (yn : LandT) (ym : LandT) (yk : LandT) (yl : (Nat → Int32)) (yt : Int32) (yd : Int32) (yu : (Nat → Int32)) (ye : (Nat → Int32)) (yv : (Nat → Int32)) (yo : (Nat → Int64)) (y0 : (Nat → Int32)) (y1 : (Nat → Int32)) (yc : Int32) (yh : Int32) (xs : (Nat → Int32)) (xm : (Nat → Int32)) (xi : (Nat → Int32)) (xw : (Nat → Int32)) (xh : Int32) (xl : (Nat → Int32)) (xr : (Nat → Int32)) (xe : (Nat → Int32)) (xn : Int32) (xo : Int32) (xp : Int32) (xu : (Nat → Int32)) (xd : Int32) (v1 : Int32) (hI : Inv yn yk yl yt yu ye yc yh xs xi xh xl xr xe xn xo) : ∃ (ra : Int64 × (Nat → Int32)) (rb : Int64 × (Nat → Int32)), fX3_mean v1 yn ye = some ra ∧ fX4_mean v1 xs xe = some rb ∧ ra.1 = rb.1 ∧ Inv yn yk yl yt yu ra.2 yc yh xs xi xh xl xr rb.2 xn xo := by
  obtain ⟨⟨L, hS, hG, hR⟩, h2, h3, h4, h5⟩ := id hI
  have hV := hS.1
  have hT := hS.2
  have hN := hV.2.2.2.2.2.2.1
  unfold fX3_mean fX4_mean
  rcases cs_either v1 with ⟨e1, e2⟩ | ⟨w, hw, rfl, e1, e2⟩
  · obtain ⟨z, u, w, q1, q2, q3⟩ := rfw h5 (c := -2) (k := 2) (by omega) rfl
    simp only [e1, e2, bsm, if_true, i_n1, i_m1, i_m2, i_m4, i_m6]
    rw [q1, q2]
    exact ⟨_, _, rfl, rfl, rfl, inv_ref hI q3⟩
  · have hs := sumN_le (M := 9) hV.1 16
    simp only [e1, e2, bsm, if_true, i_n1, i_m1, i_m2, i_m4, i_m6]
    rw [gx_sum (f := eH L) (by omega) hG.1, rx_sumH hR]
    simp only [bsm]
    rw [nI_l (by omega)]
    obtain ⟨z, q1, q2⟩ := bx_part (a := sumN (eH L) 16) (b := 16) (w := w) (by omega) (by omega) (by omega) hw
    rw [show fX3_partOf (lN (sumN (eH L) 16)) 16 (nI w) = some z from q1, show fX4_partOf (lN (sumN (eH L) 16)) 16 (nI w) = some z from q2]
    exact ⟨_, _, rfl, rfl, rfl, hI⟩
/-- the verdicts from b go by the row -/
def okR (L : LdN) (b : Nat) (f : Nat → Int32) (k : Nat) : Prop := ∀ j, j < k → nI (vrd (hrsL L j) b) = f j
theorem gx_row {g : LandT} {L : LdN} (hG : GR g L) (hV : LdV L) (hT : eT L ≤ 999) {b k : Nat} (hb : b < 10) (hk : k ≤ 16) (f : Nat → Int32) : ∃ x g', fX3_goesByRow (nI b) g f (nI k) = some (x, g') ∧ ((x = 1 ∧ okR L b f k) ∨ (x = 0 ∧ ¬ okR L b f k)) := by
  unfold fX3_goesByRow
  obtain ⟨o, h1, h2⟩ := lp_ex (body := bX3_goesByRow_2 (nI b) f (nI k)) (s0 := (0, g)) (fun i s => s.1 = nI i ∧ GR s.2 (hrsL L i) ∧ okR L b f i) (fun o => (∃ g', o = .inl (0, g') ∧ ¬ okR L b f k) ∨ (∃ g', o = .inr g' ∧ okR L b f k)) k (by omega) (by
    rintro i ⟨s1, s2⟩ hi ⟨e1, hG1, hO⟩
    dsimp only at e1 hG1
    subst e1
    have hV1 := hv_i hV hT (i := i) (by omega)
    dsimp only [bX3_goesByRow_2]
    rw [if_len rfl rfl (by omega) (by omega)]
    by_cases h : k ≤ i
    · rw [if_pos h]
      have : i = k := by omega
      subst this
      exact Or.inr ⟨_, rfl, Or.inr ⟨_, rfl, hO⟩⟩
    · obtain ⟨g', p1, p2⟩ := gx_p1 hG1 hV hT (by omega)
      rw [if_neg h, gx_vfrom hG1 hV1 (by omega), p1]
      simp only [bsm, nI_1]
      rw [if_ob (show i < 16 by omega) (by omega), cl (by omega)]
      by_cases h2 : nI (vrd (hrsL L i) b) = f i
      · rw [if_pos h2]
        refine Or.inl ⟨by omega, _, rfl, rfl, p2, fun j hj => ?_⟩
        by_cases e : j = i
        · rw [e]; exact h2
        · exact hO j (by omega)
      · rw [if_neg h2]
        exact Or.inr ⟨_, rfl, Or.inl ⟨_, rfl, fun q => h2 (q i (by omega))⟩⟩) ⟨rfl, hG, fun j hj => absurd hj (Nat.not_lt_zero j)⟩
  rw [h1]
  rcases h2 with ⟨g', rfl, h3⟩ | ⟨g', rfl, h3⟩
  · exact ⟨0, g', rfl, Or.inr ⟨rfl, h3⟩⟩
  · exact ⟨1, g', rfl, Or.inl ⟨rfl, h3⟩⟩
theorem rx_row {r : Nat → Int32} {L : LdN} (hR : RR r L) (hV : LdV L) (hT : eT L ≤ 999) {b k : Nat} (hb : b < 10) (hk : k ≤ 16) (f : Nat → Int32) : ∃ x r', lp (bX4_whereWas_107 (nI b) f (nI k)) fu (1, 0, r) = some (x, r') ∧ ((x = 1 ∧ okR L b f k) ∨ (x = 0 ∧ ¬ okR L b f k)) := by
  obtain ⟨o, h1, h2⟩ := lp_rel (body := bX4_whereWas_107 (nI b) f (nI k)) (s0 := (1, 0, r)) (fun i s => s.2.1 = nI i ∧ RR s.2.2 (hrsL L i) ∧ ((s.1 = 1 ∧ okR L b f i) ∨ (s.1 = 0 ∧ ¬ okR L b f i))) (fun o => (o.1 = 1 ∧ okR L b f k) ∨ (o.1 = 0 ∧ ¬ okR L b f k)) k (by
    rintro i ⟨s1, s2, s3⟩ hi ⟨e1, hR1, hO⟩
    dsimp only at e1 hR1 hO
    subst e1
    have hV1 := hv_i hV hT (i := i) (by omega)
    obtain ⟨r', p1, p2⟩ := rx_p1 hR1 hV hT (by omega)
    dsimp only [bX4_whereWas_107]
    rw [if_len rfl rfl (by omega) (by omega), if_neg (by omega), rx_verd hR1 hV1 (by omega), p1]
    simp only [bsm, nI_1]
    rw [if_ob (show i < 16 by omega) (by omega), cl (by omega)]
    by_cases h2 : nI (vrd (hrsL L i) b) = f i
    · rw [if_pos h2]
      refine ⟨_, rfl, rfl, p2, ?_⟩
      rcases hO with ⟨rfl, hO⟩ | ⟨rfl, hO⟩
      · refine Or.inl ⟨(show (1 : Int32) &&& 1 = 1 by decide), fun j hj => ?_⟩
        by_cases e : j = i
        · rw [e]; exact h2
        · exact hO j (by omega)
      · exact Or.inr ⟨(show (0 : Int32) &&& 1 = 0 by decide), fun q => hO (fun j hj => q j (by omega))⟩
    · rw [if_neg h2]
      refine ⟨_, rfl, rfl, p2, Or.inr ⟨?_, fun q => h2 (q i (by omega))⟩⟩
      rcases hO with ⟨rfl, -⟩ | ⟨rfl, -⟩
      · exact (show (1 : Int32) &&& 0 = 0 by decide)
      · exact (show (0 : Int32) &&& 0 = 0 by decide)) (by
    rintro ⟨s1, s2, s3⟩ ⟨e1, hR1, hO⟩
    dsimp only at e1 hR1 hO
    subst e1
    dsimp only [bX4_whereWas_107]
    rw [if_len rfl rfl (by omega) (by omega), if_pos (Nat.le_refl k)]
    exact ⟨_, rfl, hO⟩) (by omega) ⟨rfl, hR, Or.inl ⟨rfl, fun j hj => absurd hj (Nat.not_lt_zero j)⟩⟩
  obtain ⟨x, r'⟩ := o
  exact ⟨x, r', h1, h2⟩
set_option maxHeartbeats 2000000 in
theorem st_whereWas (yn : LandT) (ym : LandT) (yk : LandT) (yl : (Nat → Int32)) (yt : Int32) (yd : Int32) (yu : (Nat → Int32)) (ye : (Nat → Int32)) (yv : (Nat → Int32)) (yo : (Nat → Int64)) (y0 : (Nat → Int32)) (y1 : (Nat → Int32)) (yc : Int32) (yh : Int32) (xs : (Nat → Int32)) (xm : (Nat → Int32)) (xi : (Nat → Int32)) (xw : (Nat → Int32)) (xh : Int32) (xl : (Nat → Int32)) (xr : (Nat → Int32)) (xe : (Nat → Int32)) (xn : Int32) (xo : Int32) (xp : Int32) (xu : (Nat → Int32)) (xd : Int32) (v1 : Int32) (v2 : Int32) (v3 : Int32) (hI : Inv yn yk yl yt yu ye yc yh xs xi xh xl xr xe xn xo) : ∃ (ra : Int32 × LandT × (Nat → Int32)) (rb : Int32 × (Nat → Int32) × (Nat → Int32)), fX3_whereWas v1 v2 v3 yn ym yu ye yc = some ra ∧ fX4_whereWas v1 v2 v3 xs xm xr xe xo = some rb ∧ ra.1 = rb.1 ∧ Inv yn yk yl yt yu ra.2.2 yc yh xs xi xh xl xr rb.2.2 xn xo := by
  obtain ⟨⟨L, hS, hG, hR⟩, h2, h3, h4, h5⟩ := id hI
  have hV := hS.1
  have hT := hS.2
  have hN := hV.2.2.2.2.2.2.1
  obtain ⟨k, hk, rfl, rfl, hl⟩ := h4
  have hrow : ∀ j, j < k → yu j = xr j := fun j hj => by
    obtain ⟨v, -, g1, g2⟩ := hl j hj
    rw [g1, g2]
  unfold fX3_whereWas fX4_whereWas
  rcases cs_thing hG hR hN v1 with ⟨ea0, eb0⟩ | ⟨t, ht, rfl, ea0, eb0⟩
  · obtain ⟨u, w, q1, q2, q3⟩ := rf h5 (c := -1) (k := 1) (by omega) rfl
    simp only [ea0, eb0, Option.bind_some, if_true, i_n1, i_m1, i_m2, i_m4, i_m6]
    rw [q1, q2]
    exact ⟨_, _, rfl, rfl, rfl, inv_ref hI q3⟩
  rcases cs_branch v2 with ⟨ea1, eb1⟩ | ⟨b, hb, rfl, ea1, eb1⟩
  · obtain ⟨u, w, q1, q2, q3⟩ := rf h5 (c := -1) (k := 1) (by omega) rfl
    simp only [ea0, eb0, ea1, eb1, Option.bind_some, if_true, i_n1, i_m1, i_m2, i_m4, i_m6]
    rw [q1, q2]
    exact ⟨_, _, rfl, rfl, rfl, inv_ref hI q3⟩
  rcases cs_either v3 with ⟨ea2, eb2⟩ | ⟨w, hw, rfl, ea2, eb2⟩
  · obtain ⟨u, w, q1, q2, q3⟩ := rf h5 (c := -2) (k := 2) (by omega) rfl
    simp only [ea0, eb0, ea1, eb1, ea2, eb2, Option.bind_some, if_true, i_n1, i_m1, i_m2, i_m4, i_m6]
    rw [q1, q2]
    exact ⟨_, _, rfl, rfl, rfl, inv_ref hI q3⟩
  simp only [ea0, eb0, ea1, eb1, ea2, eb2, bsm, if_true, i_n1, i_m1, i_m2, i_m4, i_m6]
  have hw' : w = 0 ∨ w = 1 := by omega
  rcases hw' with rfl | rfl
  · skip
    obtain ⟨x, y, h6, h7, h8⟩ := lp_sim (bA := bX3_whereWas_57 (nI t) (nI b) (nI 0) yn yu (nI k) 16) (bB := bX4_whereWas_54 (nI t) (nI b) (nI 0) xs xr (nI k)) (a := (0, 0, ym)) (b := (0, 0, xm)) (fun i s s' => s.1 = s'.1 ∧ s.2.1 = nI i ∧ s'.2.1 = nI i) (fun x y => x.1 = y.1) 16 (by omega) (by
      rintro i ⟨s1, s2, s3⟩ ⟨z1, z2, z3⟩ hi ⟨e1, e2, e3⟩
      dsimp only at e1 e2 e3
      subst e1; subst e2; subst e3
      dsimp only [bX3_whereWas_57, bX4_whereWas_54]
      simp only [if_pos (show nI 0 = 0 from rfl), bsm]
      rw [if_len (u := 16) (a := 16) rfl rfl (by omega) (by omega), if_len (u := 16) (a := 16) rfl rfl (by omega) (by omega)]
      by_cases h : 16 ≤ i
      · rw [if_pos h, if_pos h]
        exact Or.inr ⟨_, _, rfl, rfl, rfl⟩
      · refine Or.inl ⟨by omega, ?_⟩
        have hV' := lv_sC (k := t) (v := i) hV (by omega)
        have hG2 := gg_sC (k := t) (v := i) hG
        obtain ⟨r1, q1, hR1⟩ := rx_copy (r2 := z3) hR
        have hR2 := rr_sC (k := t) (v := i) hR1 (by omega)
        obtain ⟨x, g', p1, p2⟩ := gx_row hG2 hV' hT (b := b) (k := k) hb hk yu
        obtain ⟨y, r', p3, p4⟩ := rx_row hR2 hV' hT (b := b) (k := k) hb hk xr
        rw [if_neg h, if_neg h, q1, of_2]
        simp only [bsm, fX3_inMind, fX0_copyFrom]
        rw [if_ob (show t < 7 by omega) (by omega), cl (show t < 2 ^ 31 by omega), if_ob (show 34 + 3 * t < 53 by omega) (by omega), cl (by omega), p3]
        simp only [bsm, nI_1]
        rw [p1]
        simp only [bsm]
        have hO : okR (sC L t i) b yu k ↔ okR (sC L t i) b xr k := ⟨fun q j hj => (q j hj).trans (hrow j hj), fun q j hj => (q j hj).trans (hrow j hj).symm⟩
        rcases p2 with ⟨rfl, p2⟩ | ⟨rfl, p2⟩
        · rcases p4 with ⟨rfl, p4⟩ | ⟨rfl, p4⟩
          · simp only [i_n1, bsm]
            exact ⟨_, _, rfl, rfl, rfl, rfl, rfl⟩
          · exact absurd (hO.mp p2) p4
        · rcases p4 with ⟨rfl, p4⟩ | ⟨rfl, p4⟩
          · exact absurd (hO.mpr p4) p2
          · simp only [if_true, bsm, Int32.or_zero]
            exact ⟨_, _, rfl, rfl, rfl, rfl, rfl⟩) ⟨rfl, rfl, rfl⟩
    simp only [if_pos (show nI 0 = 0 from rfl), bsm]
    rw [h6, h7]
    exact ⟨_, _, rfl, rfl, h8, hI⟩
  · skip
    obtain ⟨x, y, h6, h7, h8⟩ := lp_sim (bA := bX3_whereWas_57 (nI t) (nI b) (nI 1) yn yu (nI k) 6) (bB := bX4_whereWas_54 (nI t) (nI b) (nI 1) xs xr (nI k)) (a := (0, 0, ym)) (b := (0, 0, xm)) (fun i s s' => s.1 = s'.1 ∧ s.2.1 = nI i ∧ s'.2.1 = nI i) (fun x y => x.1 = y.1) 6 (by omega) (by
      rintro i ⟨s1, s2, s3⟩ ⟨z1, z2, z3⟩ hi ⟨e1, e2, e3⟩
      dsimp only at e1 e2 e3
      subst e1; subst e2; subst e3
      dsimp only [bX3_whereWas_57, bX4_whereWas_54]
      simp only [if_neg (show ¬ nI 1 = 0 from n10), bsm]
      rw [if_len (u := 6) (a := 6) rfl rfl (by omega) (by omega), if_len (u := 6) (a := 6) rfl rfl (by omega) (by omega)]
      by_cases h : 6 ≤ i
      · rw [if_pos h, if_pos h]
        exact Or.inr ⟨_, _, rfl, rfl, rfl⟩
      · refine Or.inl ⟨by omega, ?_⟩
        have hV' := lv_sK (k := t) (v := i) hV (by omega)
        have hG2 := gg_sK (k := t) (v := i) hG
        obtain ⟨r1, q1, hR1⟩ := rx_copy (r2 := z3) hR
        have hR2 := rr_sK (k := t) (v := i) hR1 (by omega)
        obtain ⟨x, g', p1, p2⟩ := gx_row hG2 hV' hT (b := b) (k := k) hb hk yu
        obtain ⟨y, r', p3, p4⟩ := rx_row hR2 hV' hT (b := b) (k := k) hb hk xr
        rw [if_neg h, if_neg h, q1, of_0]
        simp only [bsm, fX3_inMind, fX0_copyFrom]
        rw [if_ob (show t < 7 by omega) (by omega), cl (show t < 2 ^ 31 by omega), if_ob (show 32 + 3 * t < 53 by omega) (by omega), cl (by omega), p3]
        simp only [bsm, nI_1]
        rw [p1]
        simp only [bsm]
        have hO : okR (sK L t i) b yu k ↔ okR (sK L t i) b xr k := ⟨fun q j hj => (q j hj).trans (hrow j hj), fun q j hj => (q j hj).trans (hrow j hj).symm⟩
        rcases p2 with ⟨rfl, p2⟩ | ⟨rfl, p2⟩
        · rcases p4 with ⟨rfl, p4⟩ | ⟨rfl, p4⟩
          · simp only [i_n1, bsm]
            exact ⟨_, _, rfl, rfl, rfl, rfl, rfl⟩
          · exact absurd (hO.mp p2) p4
        · rcases p4 with ⟨rfl, p4⟩ | ⟨rfl, p4⟩
          · exact absurd (hO.mpr p4) p2
          · simp only [if_true, bsm, Int32.or_zero]
            exact ⟨_, _, rfl, rfl, rfl, rfl, rfl⟩) ⟨rfl, rfl, rfl⟩
    simp only [if_neg (show ¬ nI 1 = 0 from n10), bsm]
    rw [h6, h7]
    exact ⟨_, _, rfl, rfl, h8, hI⟩
