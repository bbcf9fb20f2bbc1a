/-! ===== the steps: what is best ===== -/
theorem bsm {α β : Type} (x : α) (f : α → Option β) : (some x).bind f = f x := by rw [Option.bind_some]
def tmsN (L : LdN) (b v : Nat) : Nat → Nat
  | 0 => 0
  | k + 1 => tmsN L b v k + (if vrd (hrsL L k) b = v then 1 else 0)
theorem tmsN_le (L : LdN) (b v : Nat) : ∀ k, tmsN L b v k ≤ k
  | 0 => Nat.le_refl 0
  | k + 1 => by
    have h := tmsN_le L b v k
    show tmsN L b v k + (if vrd (hrsL L k) b = v then 1 else 0) ≤ k + 1
    split <;> omega
theorem tms_s (L : LdN) (b v k : Nat) {x : Option Int32} (hx : x = if vrd (hrsL L k) b = v then some 1 else some 0) : x.bind (fun t => some (nI (tmsN L b v k) + t)) = some (nI (tmsN L b v (k + 1))) := by
  subst hx
  show _ = some (nI (tmsN L b v k + (if vrd (hrsL L k) b = v then 1 else 0)))
  by_cases h : vrd (hrsL L k) b = v
  · rw [if_pos h, if_pos h, ← nI_add]
    rfl
  · rw [if_neg h, if_neg h, ← nI_add]
    rfl
theorem gx_tms {g m : LandT} {L : LdN} (hG : GR g L) (hV : LdV L) (hT : eT L ≤ 999) {b v n : Nat} (hb : b < 10) (hv : v ≤ 2) (hn : n ≤ 60) : ∃ g', fX3_hoursWith (nI v) (nI b) (nI n) g m = some (nI (tmsN L b v (n + 1)), g') := by
  unfold fX3_hoursWith fX3_inMind fX0_copyFrom
  obtain ⟨x, h1, h2⟩ := lp_rel (body := bX3_hoursWith_12 (nI v) (nI b) (nI n)) (s0 := (0, 0, g)) (fun i s => s.1 = nI (tmsN L b v i) ∧ s.2.1 = nI i ∧ GR s.2.2 (hrsL L i)) (fun x => x.1 = nI (tmsN L b v (n + 1))) (n + 1) (by
    rintro i ⟨s1, s2, s3⟩ hi ⟨e1, e2, hG1⟩
    dsimp only at e1 e2 hG1
    subst e1; subst e2
    have hV1 := hv_i hV hT (i := i) (by omega)
    have l1 := vr_le hV1 b
    obtain ⟨g', p1, p2⟩ := gx_p1 hG1 hV hT (by omega)
    dsimp only [bX3_hoursWith_12]
    rw [if_ltn rfl rfl (by omega) (by omega), if_neg (by omega), gx_vfrom hG1 hV1 (by omega), p1]
    simp only [bsm]
    rw [if_eqn rfl (by omega) (by omega), nI_1]
    by_cases h : vrd (hrsL L i) b = v
    · rw [if_pos h]
      refine ⟨_, rfl, ?_, rfl, p2⟩
      show nI (tmsN L b v i) + 1 = nI (tmsN L b v i + (if vrd (hrsL L i) b = v then 1 else 0))
      rw [if_pos h, nI_1]
    · rw [if_neg h]
      refine ⟨_, rfl, ?_, rfl, p2⟩
      show nI (tmsN L b v i) + nI 0 = nI (tmsN L b v i + (if vrd (hrsL L i) b = v then 1 else 0))
      rw [if_neg h, nI_add]) (by
    rintro ⟨s1, s2, s3⟩ ⟨e1, e2, hG1⟩
    dsimp only at e1 e2 hG1
    subst e1; subst e2
    dsimp only [bX3_hoursWith_12]
    rw [if_ltn rfl rfl (by omega) (by omega), if_pos (by omega)]
    exact ⟨_, rfl, rfl⟩) (by omega) ⟨rfl, rfl, hG⟩
  obtain ⟨x1, x2⟩ := x
  simp only [bsm, h1]
  dsimp only at h2
  subst h2
  exact ⟨x2, rfl⟩
theorem rx_tms {r m : Nat → Int32} {L : LdN} (hR : RR r L) (hV : LdV L) (hT : eT L ≤ 999) {b v n : Nat} (hb : b < 10) (hv : v ≤ 2) (hn : n ≤ 60) : ∃ r', fX4_timesOf (nI b) (nI v) (nI n) r m = some (nI (tmsN L b v (n + 1)), r') := by
  unfold fX4_timesOf
  obtain ⟨r1, q1, hR1⟩ := rx_copy (r2 := m) hR
  obtain ⟨x, h1, h2⟩ := lp_rel (body := bX4_timesOf_17 (nI b) (nI v) (nI n)) (s0 := (0, 0, r1)) (fun i s => s.1 = nI (tmsN L b v i) ∧ s.2.1 = nI i ∧ RR s.2.2 (hrsL L i)) (fun x => x.1 = nI (tmsN L b v (n + 1))) (n + 1) (by
    rintro i ⟨s1, s2, s3⟩ hi ⟨e1, e2, hG1⟩
    dsimp only at e1 e2 hG1
    subst e1; subst e2
    have hV1 := hv_i hV hT (i := i) (by omega)
    have l1 := vr_le hV1 b
    obtain ⟨g', p1, p2⟩ := rx_p1 hG1 hV hT (by omega)
    dsimp only [bX4_timesOf_17]
    rw [if_ltn rfl rfl (by omega) (by omega), if_neg (by omega), rx_verd hG1 hV1 (by omega), p1]
    simp only [bsm]
    rw [if_eqn rfl (by omega) (by omega), nI_1]
    by_cases h : vrd (hrsL L i) b = v
    · rw [if_pos h]
      refine ⟨_, rfl, ?_, rfl, p2⟩
      show nI (tmsN L b v i) + 1 = nI (tmsN L b v i + (if vrd (hrsL L i) b = v then 1 else 0))
      rw [if_pos h, nI_1]
    · rw [if_neg h]
      refine ⟨_, rfl, ?_, rfl, p2⟩
      show nI (tmsN L b v i) + nI 0 = nI (tmsN L b v i + (if vrd (hrsL L i) b = v then 1 else 0))
      rw [if_neg h, nI_add]) (by
    rintro ⟨s1, s2, s3⟩ ⟨e1, e2, hG1⟩
    dsimp only at e1 e2 hG1
    subst e1; subst e2
    dsimp only [bX4_timesOf_17]
    rw [if_ltn rfl rfl (by omega) (by omega), if_pos (by omega)]
    exact ⟨_, rfl, rfl⟩) (by omega) ⟨rfl, rfl, hR1⟩
  obtain ⟨x1, x2⟩ := x
  simp only [bsm, q1, h1]
  dsimp only at h2
  subst h2
  exact ⟨x2, rfl⟩
theorem sC_sC (L : LdN) (t c i : Nat) : sC (sC L t c) t i = sC L t i := by
  show (eH L, eK L, eF L, (fun j => if j = t then i else if j = t then c else eC L j), eV L, eQ L, eN L, eD L, eE L, eT L) = _
  have h : (fun j => if j = t then i else if j = t then c else eC L j) = (fun j => if j = t then i else eC L j) := by
    funext j
    by_cases e : j = t
    · rw [if_pos e, if_pos e]
    · rw [if_neg e, if_neg e, if_neg e]
  rw [h]
  rfl
theorem sC_id (L : LdN) (t : Nat) : sC L t (eC L t) = L := by
  show (eH L, eK L, eF L, (fun j => if j = t then eC L t else eC L j), eV L, eQ L, eN L, eD L, eE L, eT L) = _
  have h : (fun j => if j = t then eC L t else eC L j) = eC L := by
    funext j
    by_cases e : j = t
    · rw [if_pos e, e]
    · rw [if_neg e]
  rw [h]
/-- how many branches, as a number that stays closed -/
theorem bx_cnt {g : LandT} {r : Nat → Int32} {L : LdN} (hG : GR g L) (hR : RR r L) (hV : LdV L) {v : Nat} (hv : v ≤ 2) : ∃ S m, m ≤ 16 ∧ fX0_branchesWith (nI v) g = some (nI S) ∧ fX4_branchesIn (nI v) r = some (nI S) ∧ fJ6_bitCount_0f7a4 (nI S) = some (nI m) ∧ fX4_bits (nI S) = some (nI m) := by
  have h := brs_lt L v
  exact ⟨brs L v, bitsN (brs L v) 16, bitsN_le _ 16, gx_brs hG hV (by omega), rx_brs hR hV (by omega), bitC _ h, bits_eq (by omega)⟩
theorem bx_sgt {g : LandT} {r : Nat → Int32} {L : LdN} (hG : GR g L) (hR : RR r L) (hV : LdV L) {b : Nat} (hb : b < 10) : ∃ S m, m ≤ 16 ∧ fX0_sightFrom (nI b) g = some (nI S) ∧ fX4_seenIn (nI b) r = some (nI S) ∧ fJ6_bitCount_0f7a4 (nI S) = some (nI m) ∧ fX4_bits (nI S) = some (nI m) := by
  have h := sght_lt hV b
  exact ⟨sght L b, bitsN (sght L b) 16, bitsN_le _ 16, gx_sight hG hV (by omega), rx_sight hR hV (by omega), bitC _ (by omega), bits_eq (by omega)⟩
set_option maxHeartbeats 2000000 in
theorem st_best (yn : LandT) (ym : LandT) (yk : LandT) (yl : (Nat → Int32)) (yt : Int32) (yd : Int32) (yu : (Nat → Int32)) (ye : (Nat → Int32)) (yv : (Nat → Int32)) (yo : (Nat → Int64)) (y0 : (Nat → Int32)) (y1 : (Nat → Int32)) (yc : Int32) (yh : Int32) (xs : (Nat → Int32)) (xm : (Nat → Int32)) (xi : (Nat → Int32)) (xw : (Nat → Int32)) (xh : Int32) (xl : (Nat → Int32)) (xr : (Nat → Int32)) (xe : (Nat → Int32)) (xn : Int32) (xo : Int32) (xp : Int32) (xu : (Nat → Int32)) (xd : Int32) (v1 : Int32) (v2 : Int32) (v3 : Int32) (hI : Inv yn yk yl yt yu ye yc yh xs xi xh xl xr xe xn xo) : ∃ (ra : Int32 × LandT × (Nat → Int32)) (rb : Int32 × (Nat → Int32) × (Nat → Int32)), fX3_best v1 v2 v3 yn ym ye = some ra ∧ fX4_best v1 v2 v3 xs xm xe = some rb ∧ ra.1 = rb.1 ∧ Inv yn yk yl yt yu ra.2.2 yc yh xs xi xh xl xr rb.2.2 xn xo := by
  obtain ⟨⟨L, hS, hG, hR⟩, h2, h3, h4, h5⟩ := id hI
  have hV := hS.1
  have hT := hS.2
  have hN := hV.2.2.2.2.2.2.1
  unfold fX3_best fX4_best
  rcases cs_verdict v1 with ⟨ea0, eb0⟩ | ⟨v, hv, rfl, ea0, eb0⟩
  · obtain ⟨u, w, q1, q2, q3⟩ := rf h5 (c := -2) (k := 2) (by omega) rfl
    simp only [ea0, eb0, Option.bind_some, if_true, i_n1, i_m1, i_m2, i_m4, i_m6]
    rw [q1, q2]
    exact ⟨_, _, rfl, rfl, rfl, inv_ref hI q3⟩
  rcases cs_either v3 with ⟨ea1, eb1⟩ | ⟨w, hw, rfl, ea1, eb1⟩
  · obtain ⟨u, w, q1, q2, q3⟩ := rf h5 (c := -2) (k := 2) (by omega) rfl
    simp only [ea0, eb0, ea1, eb1, Option.bind_some, if_true, i_n1, i_m1, i_m2, i_m4, i_m6]
    rw [q1, q2]
    exact ⟨_, _, rfl, rfl, rfl, inv_ref hI q3⟩
  rcases cs_rng v2 (b := 30) (by omega) with ⟨c, k', hk', hc, hc0, ea2, eb2, ec2⟩ | ⟨n, hn, rfl, ea2, eb2⟩
  · obtain ⟨u, w, q1, q2, q3⟩ := rf h5 (c := c) (k := k') hk' hc
    simp only [ea0, eb0, ea1, eb1, show fX3_isWithin v2 0 30 = some 0 from ea2, show fX4_wrongBy v2 0 30 = some c from eb2, ec2, Option.bind_some, if_true, i_n1, i_m1, i_m2, i_m4, i_m6, if_neg hc0]
    rw [q1, q2]
    exact ⟨_, _, rfl, rfl, rfl, inv_ref hI q3⟩
  have hv2 : v ≤ 2 := by omega
  obtain ⟨x, y, h6, h7, d, hd, h8, h9, h10⟩ := lp_sim (bA := bX3_best_56 (nI v) (nI n) yn) (bB := bX4_best_48 (nI v) (nI n) xs) (a := (0, -1, 0, ym)) (b := (0, 0, xm)) (fun i s s' => s.2.2.1 = nI i ∧ s'.2.1 = nI i ∧ ∃ d, d < 10 ∧ s.1 = nI d ∧ s'.1 = nI d ∧ ((i = 0 ∧ d = 0 ∧ s.2.1 = -1) ∨ (0 < i ∧ s.2.1 = nI (tmsN L d v (n + 1))))) (fun x y => ∃ d, d < 10 ∧ x.1 = nI d ∧ y.1 = nI d ∧ x.2.1 = nI (tmsN L d v (n + 1))) 10 (by omega) (by
    rintro i ⟨s1, s2, s3, s4⟩ ⟨z1, z2, z3⟩ hi ⟨e1, e2, d, hd, e3, e4, e5⟩
    dsimp only at e1 e2 e3 e4 e5
    subst e1; subst e2; subst e3; subst e4
    dsimp only [bX3_best_56, bX4_best_48]
    rw [if_len (u := 10) (a := 10) rfl rfl (by omega) (by omega), if_len (u := 10) (a := 10) rfl rfl (by omega) (by omega)]
    by_cases h : 10 ≤ i
    · rw [if_pos h, if_pos h]
      rcases e5 with ⟨e5, -, -⟩ | ⟨-, e5⟩
      · omega
      · exact Or.inr ⟨_, _, rfl, rfl, d, hd, rfl, rfl, e5⟩
    · refine Or.inl ⟨by omega, ?_⟩
      obtain ⟨g1, p1⟩ := gx_tms (m := s4) hG hV hT (b := i) (v := v) (n := n) (by omega) hv2 (by omega)
      obtain ⟨r1, p2⟩ := rx_tms (m := z3) hR hV hT (b := i) (v := v) (n := n) (by omega) hv2 (by omega)
      obtain ⟨r2, p3⟩ := rx_tms (m := r1) hR hV hT (b := d) (v := v) (n := n) hd hv2 (by omega)
      have l1 := tmsN_le L i v (n + 1)
      have l2 := tmsN_le L d v (n + 1)
      rw [if_neg h, if_neg h, p1, p2]
      simp only [bsm, p3, nI_1]
      rcases e5 with ⟨rfl, rfl, rfl⟩ | ⟨hi0, rfl⟩
      · rw [if_neg (Int32.not_le.mpr (n_m1 (by omega))), if_pos (Int32.le_refl _)]
        exact ⟨_, _, rfl, rfl, rfl, rfl, 0, by omega, rfl, rfl, Or.inr ⟨by omega, rfl⟩⟩
      · by_cases h2 : nI (tmsN L i v (n + 1)) ≤ nI (tmsN L d v (n + 1))
        · rw [if_pos h2, if_pos h2]
          exact ⟨_, _, rfl, rfl, rfl, rfl, d, hd, rfl, rfl, Or.inr ⟨by omega, rfl⟩⟩
        · rw [if_neg h2, if_neg h2]
          exact ⟨_, _, rfl, rfl, rfl, rfl, i, by omega, rfl, rfl, Or.inr ⟨by omega, rfl⟩⟩) ⟨rfl, rfl, 0, by omega, rfl, rfl, Or.inl ⟨rfl, rfl, rfl⟩⟩
  obtain ⟨x1, x2, x3⟩ := x
  obtain ⟨y1, y2⟩ := y
  dsimp only at h8 h9 h10
  subst h8; subst h9; subst h10
  obtain ⟨r1, p2⟩ := rx_tms (m := y2) hR hV hT (b := d) (v := v) (n := n) hd hv2 (by omega)
  simp only [ea0, eb0, ea1, eb1, show fX3_isWithin (nI n) 0 30 = some 1 from ea2, show fX4_wrongBy (nI n) 0 30 = some 0 from eb2, bsm, if_true, i_n1, i_m1, i_m2, i_m4, i_m6, h6, h7, p2]
  by_cases c0 : nI w = 0
  · rw [if_pos c0, if_pos c0]
    exact ⟨_, _, rfl, rfl, rfl, hI⟩
  · rw [if_neg c0, if_neg c0]
    exact ⟨_, _, rfl, rfl, rfl, hI⟩
set_option maxHeartbeats 2000000 in
theorem st_drive (yn : LandT) (ym : LandT) (yk : LandT) (yl : (Nat → Int32)) (yt : Int32) (yd : Int32) (yu : (Nat → Int32)) (ye : (Nat → Int32)) (yv : (Nat → Int32)) (yo : (Nat → Int64)) (y0 : (Nat → Int32)) (y1 : (Nat → Int32)) (yc : Int32) (yh : Int32) (xs : (Nat → Int32)) (xm : (Nat → Int32)) (xi : (Nat → Int32)) (xw : (Nat → Int32)) (xh : Int32) (xl : (Nat → Int32)) (xr : (Nat → Int32)) (xe : (Nat → Int32)) (xn : Int32) (xo : Int32) (xp : Int32) (xu : (Nat → Int32)) (xd : Int32) (v1 : Int32) (v2 : Int32) (hI : Inv yn yk yl yt yu ye yc yh xs xi xh xl xr xe xn xo) : ∃ (ra : Int32 × LandT × (Nat → Int32)) (rb : Int32 × (Nat → Int32) × (Nat → Int32)), fX3_drive v1 v2 yn ym ye = some ra ∧ fX4_drive v1 v2 xs xm xe = some rb ∧ ra.1 = rb.1 ∧ Inv yn yk yl yt yu ra.2.2 yc yh xs xi xh xl xr rb.2.2 xn xo := by
  obtain ⟨⟨L, hS, hG, hR⟩, h2, h3, h4, h5⟩ := id hI
  have hV := hS.1
  have hT := hS.2
  have hN := hV.2.2.2.2.2.2.1
  unfold fX3_drive fX4_drive
  rcases cs_thing hG hR hN v1 with ⟨ea0, eb0⟩ | ⟨t, ht, rfl, ea0, eb0⟩
  · obtain ⟨u, w, q1, q2, q3⟩ := rf h5 (c := -1) (k := 1) (by omega) rfl
    simp only [ea0, eb0, Option.bind_some, if_true, i_n1, i_m1, i_m2, i_m4, i_m6]
    rw [q1, q2]
    exact ⟨_, _, rfl, rfl, rfl, inv_ref hI q3⟩
  rcases cs_verdict v2 with ⟨ea1, eb1⟩ | ⟨v, hv, rfl, ea1, eb1⟩
  · obtain ⟨u, w, q1, q2, q3⟩ := rf h5 (c := -2) (k := 2) (by omega) rfl
    simp only [ea0, eb0, ea1, eb1, Option.bind_some, if_true, i_n1, i_m1, i_m2, i_m4, i_m6]
    rw [q1, q2]
    exact ⟨_, _, rfl, rfl, rfl, inv_ref hI q3⟩
  have hv2 : v ≤ 2 := by omega
  obtain ⟨S0, m0, hm0, k1, k2, k3, k4⟩ := bx_cnt hG hR hV hv2
  obtain ⟨x, y, h6, h7, h8⟩ := lp_sim (bA := bX3_drive_56 (nI t) (nI v)) (bB := bX4_drive_56 (nI t) (nI v) xs) (a := (-9, nI m0, 0, yn)) (b := (nI m0, -9, 0, xm)) (fun i s s' => s.1 = s'.2.1 ∧ s.2.1 = s'.1 ∧ s.2.2.1 = nI i ∧ s'.2.2.1 = nI i ∧ ∃ c, GR s.2.2.2 (sC L t c)) (fun x y => x.1 = y.1) 16 (by omega) (by
    rintro i ⟨s1, s2, s3, s4⟩ ⟨z1, z2, z3, z4⟩ hi ⟨e1, e2, e3, e4, c, hG1⟩
    dsimp only at e1 e2 e3 e4 hG1
    subst e1; subst e2; subst e3; subst e4
    dsimp only [bX3_drive_56, bX4_drive_56]
    rw [if_len (u := 16) (a := 16) rfl rfl (by omega) (by omega), if_len (u := 16) (a := 16) rfl rfl (by omega) (by omega)]
    by_cases h : 16 ≤ i
    · rw [if_pos h, if_pos h]
      exact Or.inr ⟨_, _, rfl, rfl, rfl⟩
    · refine Or.inl ⟨by omega, ?_⟩
      have hV' := lv_sC (k := t) (v := i) hV (by omega)
      have hG2 := gg_sC (k := t) (v := i) hG1
      rw [sC_sC] at hG2
      obtain ⟨r1, q1, hR1⟩ := rx_copy (r2 := z4) hR
      have hR2 := rr_sC (k := t) (v := i) hR1 (by omega)
      obtain ⟨S1, m1, hm1, j1, j2, j3, j4⟩ := bx_cnt hG2 hR2 hV' hv2
      rw [if_neg h, if_neg h, if_ob (show t < 7 by omega) (by omega), q1, of_2]
      simp only [bsm]
      rw [if_ob (show 34 + 3 * t < 53 by omega) (by omega), cl (by omega), cl (by omega), j1, j2]
      simp only [bsm, j3, j4, nI_1]
      rw [i_le]
      by_cases h2 : s2 < nI m1
      · rw [if_pos h2, if_pos h2]
        exact ⟨_, _, rfl, rfl, rfl, rfl, rfl, rfl, i, hG2⟩
      · rw [if_neg h2, if_neg h2]
        exact ⟨_, _, rfl, rfl, rfl, rfl, rfl, rfl, i, hG2⟩) ⟨rfl, rfl, rfl, rfl, eC L t, by rw [sC_id]; exact hG⟩
  simp only [ea0, eb0, ea1, eb1, bsm, if_true, i_n1, i_m1, i_m2, i_m4, i_m6, fX3_inMind, fX0_copyFrom]
  simp only [k1, k2, bsm, k3, k4, h6, h7]
  exact ⟨_, _, rfl, rfl, h8, hI⟩
set_option maxHeartbeats 2000000 in
theorem st_hill (yn : LandT) (ym : LandT) (yk : LandT) (yl : (Nat → Int32)) (yt : Int32) (yd : Int32) (yu : (Nat → Int32)) (ye : (Nat → Int32)) (yv : (Nat → Int32)) (yo : (Nat → Int64)) (y0 : (Nat → Int32)) (y1 : (Nat → Int32)) (yc : Int32) (yh : Int32) (xs : (Nat → Int32)) (xm : (Nat → Int32)) (xi : (Nat → Int32)) (xw : (Nat → Int32)) (xh : Int32) (xl : (Nat → Int32)) (xr : (Nat → Int32)) (xe : (Nat → Int32)) (xn : Int32) (xo : Int32) (xp : Int32) (xu : (Nat → Int32)) (xd : Int32) (v1 : Int32) (v2 : Int32) (hI : Inv yn yk yl yt yu ye yc yh xs xi xh xl xr xe xn xo) : ∃ (ra : Int32 × LandT × (Nat → Int32)) (rb : Int32 × (Nat → Int32) × (Nat → Int32)), fX3_hill v1 v2 yn ym ye = some ra ∧ fX4_hill v1 v2 xs xm xe = some rb ∧ ra.1 = rb.1 ∧ Inv yn yk yl yt yu ra.2.2 yc yh xs xi xh xl xr rb.2.2 xn xo := by
  obtain ⟨⟨L, hS, hG, hR⟩, h2, h3, h4, h5⟩ := id hI
  have hV := hS.1
  have hT := hS.2
  have hN := hV.2.2.2.2.2.2.1
  unfold fX3_hill fX4_hill
  rcases cs_branch v1 with ⟨ea0, eb0⟩ | ⟨b, hb, rfl, ea0, eb0⟩
  · obtain ⟨u, w, q1, q2, q3⟩ := rf h5 (c := -1) (k := 1) (by omega) rfl
    simp only [ea0, eb0, Option.bind_some, if_true, i_n1, i_m1, i_m2, i_m4, i_m6]
    rw [q1, q2]
    exact ⟨_, _, rfl, rfl, rfl, inv_ref hI q3⟩
  rcases cs_either v2 with ⟨ea1, eb1⟩ | ⟨w, hw, rfl, ea1, eb1⟩
  · obtain ⟨u, w, q1, q2, q3⟩ := rf h5 (c := -2) (k := 2) (by omega) rfl
    simp only [ea0, eb0, ea1, eb1, Option.bind_some, if_true, i_n1, i_m1, i_m2, i_m4, i_m6]
    rw [q1, q2]
    exact ⟨_, _, rfl, rfl, rfl, inv_ref hI q3⟩
  simp only [ea0, eb0, ea1, eb1, bsm, if_true, i_n1, i_m1, i_m2, i_m4, i_m6]
  have hw' : w = 0 ∨ w = 1 := by omega
  rcases hw' with rfl | rfl
  · rw [if_pos (show nI 0 = 0 from rfl)]
    unfold fX3_cellToLevel
    obtain ⟨S0, m0, hm0, k1, k2, k3, k4⟩ := bx_sgt hG hR hV hb
    obtain ⟨x, y, h6, h7, h8⟩ := lp_sim (bA := bX3_cellToLevel_18 (nI b) yn) (bB := bX4_hill_57 (nI b) (nI 0) xs) (a := (-9, nI m0, 0, ym)) (b := (nI m0, -9, 0, xm)) (fun i s s' => s.1 = s'.2.1 ∧ s.2.1 = s'.1 ∧ s.2.2.1 = nI i ∧ s'.2.2.1 = nI i) (fun x y => x.1 = y.1) 16 (by omega) (by
      rintro i ⟨s1, s2, s3, s4⟩ ⟨z1, z2, z3, z4⟩ hi ⟨e1, e2, e3, e4⟩
      dsimp only at e1 e2 e3 e4
      subst e1; subst e2; subst e3; subst e4
      dsimp only [bX3_cellToLevel_18, bX4_hill_57]
      rw [if_len (u := 16) (a := 16) rfl rfl (by omega) (by omega), if_len (u := 16) (a := 16) rfl rfl (by omega) (by omega)]
      by_cases h : 16 ≤ i
      · rw [if_pos h, if_pos h]
        exact Or.inr ⟨_, _, rfl, rfl, rfl⟩
      · refine Or.inl ⟨by omega, ?_⟩
        have hV' := lv_sH (k := i) (v := 0) hV (by omega)
        obtain ⟨g1, p1, hG2⟩ := gx_setHeight hG hV (c := i) (v := 0) (by omega) (by omega)
        obtain ⟨r1, q1, hR1⟩ := rx_copy (r2 := z4) hR
        have hR2 := rr_sH (k := i) (v := 0) hR1 (by omega)
        obtain ⟨S1, m1, hm1, j1, j2, j3, j4⟩ := bx_sgt hG2 hR2 hV' hb
        rw [if_neg h, if_neg h, q1]
        unfold fX3_manySeenWith fX3_inMind fX0_copyFrom
        simp only [bsm, if_pos (show nI 0 = 0 from rfl), show fX0_setHeight (nI i) 0 yn = some g1 from p1]
        rw [n4, if_ob (show 4 + i < 53 by omega) (by omega), cl (by omega), show fX4_seenIn (nI b) (upd r1 (4 + i) 0) = some (nI S1) from j2, j1]
        simp only [bsm, j3, j4, nI_1]
        rw [i_le]
        by_cases h2 : s2 < nI m1
        · rw [if_pos h2, if_pos h2]
          exact ⟨_, _, rfl, rfl, rfl, rfl, rfl, rfl⟩
        · rw [if_neg h2, if_neg h2]
          exact ⟨_, _, rfl, rfl, rfl, rfl, rfl, rfl⟩) ⟨rfl, rfl, rfl, rfl⟩
    simp only [k1, k2, bsm, k3, k4, h6, h7]
    exact ⟨_, _, rfl, rfl, h8, hI⟩
  · rw [if_neg (show ¬ nI 1 = 0 from n10)]
    unfold fX3_cellToScreen
    obtain ⟨S0, m0, hm0, k1, k2, k3, k4⟩ := bx_sgt hG hR hV hb
    obtain ⟨x, y, h6, h7, h8⟩ := lp_sim (bA := bX3_cellToScreen_18 (nI b) yn) (bB := bX4_hill_57 (nI b) (nI 1) xs) (a := (-9, nI m0, 0, ym)) (b := (nI m0, -9, 0, xm)) (fun i s s' => s.1 = s'.2.1 ∧ s.2.1 = s'.1 ∧ s.2.2.1 = nI i ∧ s'.2.2.1 = nI i) (fun x y => x.1 = y.1) 16 (by omega) (by
      rintro i ⟨s1, s2, s3, s4⟩ ⟨z1, z2, z3, z4⟩ hi ⟨e1, e2, e3, e4⟩
      dsimp only at e1 e2 e3 e4
      subst e1; subst e2; subst e3; subst e4
      dsimp only [bX3_cellToScreen_18, bX4_hill_57]
      rw [if_len (u := 16) (a := 16) rfl rfl (by omega) (by omega), if_len (u := 16) (a := 16) rfl rfl (by omega) (by omega)]
      by_cases h : 16 ≤ i
      · rw [if_pos h, if_pos h]
        exact Or.inr ⟨_, _, rfl, rfl, rfl⟩
      · refine Or.inl ⟨by omega, ?_⟩
        have hV' := lv_sH (k := i) (v := 9) hV (by omega)
        obtain ⟨g1, p1, hG2⟩ := gx_setHeight hG hV (c := i) (v := 9) (by omega) (by omega)
        obtain ⟨r1, q1, hR1⟩ := rx_copy (r2 := z4) hR
        have hR2 := rr_sH (k := i) (v := 9) hR1 (by omega)
        obtain ⟨S1, m1, hm1, j1, j2, j3, j4⟩ := bx_sgt hG2 hR2 hV' hb
        rw [if_neg h, if_neg h, q1]
        unfold fX3_manySeenWith fX3_inMind fX0_copyFrom
        simp only [bsm, if_neg (show ¬ nI 1 = 0 from n10), show fX0_setHeight (nI i) 9 yn = some g1 from p1]
        rw [n4, if_ob (show 4 + i < 53 by omega) (by omega), cl (by omega), show fX4_seenIn (nI b) (upd r1 (4 + i) 9) = some (nI S1) from j2, j1]
        simp only [bsm, j3, j4, nI_1]
        rw [i_le]
        by_cases h2 : nI m1 < s2
        · rw [if_pos h2, if_pos h2]
          exact ⟨_, _, rfl, rfl, rfl, rfl, rfl, rfl⟩
        · rw [if_neg h2, if_neg h2]
          exact ⟨_, _, rfl, rfl, rfl, rfl, rfl, rfl⟩) ⟨rfl, rfl, rfl, rfl⟩
    simp only [k1, k2, bsm, k3, k4, h6, h7]
    exact ⟨_, _, rfl, rfl, h8, hI⟩
set_option maxHeartbeats 2000000 in
theorem st_eyesBest (yn : LandT) (ym : LandT) (yk : LandT) (yl : (Nat → Int32)) (yt : Int32) (yd : Int32) (yu : (Nat → Int32)) (ye : (Nat → Int32)) (yv : (Nat → Int32)) (yo : (Nat → Int64)) (y0 : (Nat → Int32)) (y1 : (Nat → Int32)) (yc : Int32) (yh : Int32) (xs : (Nat → Int32)) (xm : (Nat → Int32)) (xi : (Nat → Int32)) (xw : (Nat → Int32)) (xh : Int32) (xl : (Nat → Int32)) (xr : (Nat → Int32)) (xe : (Nat → Int32)) (xn : Int32) (xo : Int32) (xp : Int32) (xu : (Nat → Int32)) (xd : Int32) (v1 : Int32) (v2 : Int32) (v3 : Int32) (hI : Inv yn yk yl yt yu ye yc yh xs xi xh xl xr xe xn xo) : ∃ (ra : Int32 × LandT × (Nat → Int32)) (rb : Int32 × (Nat → Int32) × (Nat → Int32)), fX3_eyesBest v1 v2 v3 yn ym ye = some ra ∧ fX4_eyesBest v1 v2 v3 xs xm xe = some rb ∧ ra.1 = rb.1 ∧ Inv yn yk yl yt yu ra.2.2 yc yh xs xi xh xl xr rb.2.2 xn xo := by
  obtain ⟨⟨L, hS, hG, hR⟩, h2, h3, h4, h5⟩ := id hI
  have hV := hS.1
  have hT := hS.2
  have hN := hV.2.2.2.2.2.2.1
  unfold fX3_eyesBest fX4_eyesBest
  rcases cs_branch v1 with ⟨ea0, eb0⟩ | ⟨b, hb, rfl, ea0, eb0⟩
  · obtain ⟨u, w, q1, q2, q3⟩ := rf h5 (c := -1) (k := 1) (by omega) rfl
    simp only [ea0, eb0, Option.bind_some, if_true, i_n1, i_m1, i_m2, i_m4, i_m6]
    rw [q1, q2]
    exact ⟨_, _, rfl, rfl, rfl, inv_ref hI q3⟩
  rcases cs_verdict v2 with ⟨ea1, eb1⟩ | ⟨v, hv, rfl, ea1, eb1⟩
  · obtain ⟨u, w, q1, q2, q3⟩ := rf h5 (c := -2) (k := 2) (by omega) rfl
    simp only [ea0, eb0, ea1, eb1, Option.bind_some, if_true, i_n1, i_m1, i_m2, i_m4, i_m6]
    rw [q1, q2]
    exact ⟨_, _, rfl, rfl, rfl, inv_ref hI q3⟩
  rcases cs_either v3 with ⟨ea2, eb2⟩ | ⟨w, hw, rfl, ea2, eb2⟩
  · obtain ⟨u, w, q1, q2, q3⟩ := rf h5 (c := -2) (k := 2) (by omega) rfl
    simp only [ea0, eb0, ea1, eb1, ea2, eb2, Option.bind_some, if_true, i_n1, i_m1, i_m2, i_m4, i_m6]
    rw [q1, q2]
    exact ⟨_, _, rfl, rfl, rfl, inv_ref hI q3⟩
  obtain ⟨x, y, h6, h7, h8⟩ := lp_sim (bA := bX3_eyesBest_51 (nI b) (nI v)) (bB := bX4_eyesBest_54 (nI b) (nI v) (nI w) xs) (a := (-9, -9, 0, yn)) (b := (-9, 0, xm)) (fun i s s' => s.2.2.1 = nI i ∧ s'.2.1 = nI i ∧ (∃ e, GR s.2.2.2 (sE L e)) ∧ ((s.1 = -9 ∧ s.2.1 = -9 ∧ s'.1 = -9) ∨ ∃ p q, p < 100 ∧ q < 100 ∧ s.1 = nI p ∧ s.2.1 = nI q ∧ s'.1 = nI (if w = 0 then p else q))) (fun x y => if w = 0 then x.1 = y.1 else x.2.1 = y.1) 17 (by omega) (by
    rintro i ⟨s1, s2, s3, s4⟩ ⟨z1, z2, z3⟩ hi ⟨e1, e2, ⟨e, hG1⟩, e3⟩
    dsimp only at e1 e2 e3 hG1
    subst e1; subst e2
    dsimp only [bX3_eyesBest_51, bX4_eyesBest_54]
    rw [if_ltn (u := 16) (a := 16) rfl rfl (by omega) (by omega), if_ltn (u := 16) (a := 16) rfl rfl (by omega) (by omega)]
    by_cases h : 16 < i
    · rw [if_pos h, if_pos h]
      refine Or.inr ⟨_, _, rfl, rfl, ?_⟩
      rcases e3 with ⟨rfl, rfl, rfl⟩ | ⟨p, q, -, -, rfl, rfl, rfl⟩
      · split <;> rfl
      · by_cases hw0 : w = 0
        · rw [if_pos hw0, if_pos hw0]
        · rw [if_neg hw0, if_neg hw0]
    · refine Or.inl ⟨by omega, ?_⟩
      have hV' := lv_sE (v := i) hV (by omega)
      have hG2 : GR (gH s4, gR s4, gK s4, gF s4, gP s4, gV s4, gQ s4, gN s4, gD s4, nI i, gT s4) (sE L i) := by
        have hG3 := gg_sE (v := i) hG1
        exact hG3
      obtain ⟨r1, q1, hR1⟩ := rx_copy (r2 := z3) hR
      have hR2 := rr_sE (v := i) hR1
      have l1 := vr_le hV' b
      rw [if_neg h, if_neg h, q1, gx_vfrom hG2 hV' (by omega)]
      simp only [bsm, cl_2]
      rw [rx_verd hR2 hV' (by omega)]
      simp only [bsm]
      rw [if_eqn rfl (by omega) (by omega), if_eqn rfl (by omega) (by omega), nI_1]
      by_cases h2 : vrd (sE L i) b = v
      · rw [if_pos h2, if_pos h2]
        rcases e3 with ⟨rfl, rfl, rfl⟩ | ⟨p, q, hp, hq, rfl, rfl, rfl⟩
        · rw [if_pos rfl, if_pos (show (-9 : Int32) < 0 by decide)]
          refine ⟨_, _, rfl, rfl, rfl, rfl, ⟨i, hG2⟩, Or.inr ⟨i, i, by omega, by omega, rfl, rfl, ?_⟩⟩
          split <;> rfl
        · have hpm : ¬ nI p = -9 := fun q => by
            have h6 := n_m9 (a := p) (by omega)
            rw [q] at h6
            exact absurd h6 (by decide)
          have hz : ¬ nI (if w = 0 then p else q) < 0 := fun z => by
            have := (n_lt (b := 0) (by split <;> omega) (by omega)).mp z
            omega
          rw [if_neg hpm, if_neg hz, if_eqn (v := 1) (k := 1) rfl (by omega) (by omega)]
          by_cases hw0 : w = 0
          · rw [if_neg (show ¬ w = 1 by omega), if_pos hw0]
            refine ⟨_, _, rfl, rfl, rfl, rfl, ⟨i, hG2⟩, Or.inr ⟨p, i, hp, by omega, rfl, rfl, ?_⟩⟩
            rw [if_pos hw0]
          · rw [if_pos (show w = 1 by omega)]
            refine ⟨_, _, rfl, rfl, rfl, rfl, ⟨i, hG2⟩, Or.inr ⟨p, i, hp, by omega, rfl, rfl, ?_⟩⟩
            rw [if_neg hw0]
      · rw [if_neg h2, if_neg h2]
        exact ⟨_, _, rfl, rfl, rfl, rfl, ⟨i, hG2⟩, e3⟩) ⟨rfl, rfl, ⟨eE L, hG⟩, Or.inl ⟨rfl, rfl, rfl⟩⟩
  obtain ⟨x1, x2, x3⟩ := x
  obtain ⟨y1, y2⟩ := y
  simp only [ea0, eb0, ea1, eb1, ea2, eb2, bsm, if_true, i_n1, i_m1, i_m2, i_m4, i_m6, fX3_inMind, fX0_copyFrom, h6, h7]
  rw [if_eqn (v := 0) (k := 0) rfl (by omega) (by omega)]
  by_cases hw0 : w = 0
  · rw [if_pos hw0]
    rw [if_pos hw0] at h8
    exact ⟨_, _, rfl, rfl, h8, hI⟩
  · rw [if_neg hw0]
    rw [if_neg hw0] at h8
    exact ⟨_, _, rfl, rfl, h8, hI⟩
set_option maxHeartbeats 2000000 in
theorem st_ranked (yn : LandT) (ym : LandT) (yk : LandT) (yl : (Nat → Int32)) (yt : Int32) (yd : Int32) (yu : (Nat → Int32)) (ye : (Nat → Int32)) (yv : (Nat → Int32)) (yo : (Nat → Int64)) (y0 : (Nat → Int32)) (y1 : (Nat → Int32)) (yc : Int32) (yh : Int32) (xs : (Nat → Int32)) (xm : (Nat → Int32)) (xi : (Nat → Int32)) (xw : (Nat → Int32)) (xh : Int32) (xl : (Nat → Int32)) (xr : (Nat → Int32)) (xe : (Nat → Int32)) (xn : Int32) (xo : Int32) (xp : Int32) (xu : (Nat → Int32)) (xd : Int32) (v1 : Int32) (v2 : Int32) (hI : Inv yn yk yl yt yu ye yc yh xs xi xh xl xr xe xn xo) : ∃ (ra : Int32 × LandT × (Nat → Int32)) (rb : Int32 × (Nat → Int32) × (Nat → Int32)), fX3_ranked v1 v2 yn ym ye = some ra ∧ fX4_ranked v1 v2 xs xm xe = some rb ∧ ra.1 = rb.1 ∧ Inv yn yk yl yt yu ra.2.2 yc yh xs xi xh xl xr rb.2.2 xn xo := by
  obtain ⟨⟨L, hS, hG, hR⟩, h2, h3, h4, h5⟩ := id hI
  have hV := hS.1
  have hT := hS.2
  have hN := hV.2.2.2.2.2.2.1
  unfold fX3_ranked fX4_ranked
  rcases cs_verdict v1 with ⟨ea0, eb0⟩ | ⟨v, hv, rfl, ea0, eb0⟩
  · obtain ⟨u, w, q1, q2, q3⟩ := rf h5 (c := -2) (k := 2) (by omega) rfl
    simp only [ea0, eb0, Option.bind_some, if_true, i_n1, i_m1, i_m2, i_m4, i_m6]
    rw [q1, q2]
    exact ⟨_, _, rfl, rfl, rfl, inv_ref hI q3⟩
  rcases cs_either v2 with ⟨ea1, eb1⟩ | ⟨w, hw, rfl, ea1, eb1⟩
  · obtain ⟨u, w, q1, q2, q3⟩ := rf h5 (c := -2) (k := 2) (by omega) rfl
    simp only [ea0, eb0, ea1, eb1, Option.bind_some, if_true, i_n1, i_m1, i_m2, i_m4, i_m6]
    rw [q1, q2]
    exact ⟨_, _, rfl, rfl, rfl, inv_ref hI q3⟩
  obtain ⟨x, y, h6, h7, h8⟩ := lp_sim (bA := bX3_ranked_29 (nI v) yn) (bB := bX4_ranked_31 (nI v) xs) (a := (0, -1, 0, ym)) (b := (0, -1, 0, xm)) (fun i s s' => s.1 = s'.1 ∧ s.2.1 = s'.2.1 ∧ s.2.2.1 = nI i ∧ s'.2.2.1 = nI i) (fun x y => x.1 = y.1 ∧ x.2.1 = y.2.1) 6 (by omega) (by
    rintro i ⟨s1, s2, s3, s4⟩ ⟨z1, z2, z3, z4⟩ hi ⟨e1, e2, e3, e4⟩
    dsimp only at e1 e2 e3 e4
    subst e1; subst e2; subst e3; subst e4
    dsimp only [bX3_ranked_29, bX4_ranked_31]
    rw [if_len (u := 6) (a := 6) rfl rfl (by omega) (by omega), if_len (u := 6) (a := 6) rfl rfl (by omega) (by omega)]
    by_cases h : 6 ≤ i
    · rw [if_pos h, if_pos h]
      exact Or.inr ⟨_, _, rfl, rfl, rfl, rfl⟩
    · refine Or.inl ⟨by omega, ?_⟩
      have hV' := lv_sQ (k := i) (v := 10) hV (by omega)
      have hG2 : GR (gH yn, gR yn, gK yn, gF yn, gP yn, gV yn, upd (gQ yn) i 10, gN yn, gD yn, gE yn, gT yn) (sQ L i 10) := gg_sQ (k := i) (v := 10) hG
      obtain ⟨r1, q1, hR1⟩ := rx_copy (r2 := z4) hR
      have hR2 : RR (upd r1 (26 + i) 10) (sQ L i 10) := rr_sQ (k := i) (v := 10) hR1 (by omega)
      obtain ⟨S1, m1, hm1, j1, j2, j3, j4⟩ := bx_cnt hG2 hR2 hV' (v := v) (by omega)
      simp only [fX3_inMind, fX0_copyFrom, bsm]
      rw [if_neg h, if_neg h, if_ob (show i < 6 by omega) (by omega), q1]
      simp only [bsm]
      rw [n26, if_ob (show 26 + i < 53 by omega) (by omega), cl (by omega), cl (by omega), j1, j2]
      simp only [bsm, j3, j4, nI_1]
      rw [i_le]
      by_cases h2 : s2 < nI m1
      · rw [if_pos h2, if_pos h2]
        exact ⟨_, _, rfl, rfl, rfl, rfl, rfl, rfl⟩
      · rw [if_neg h2, if_neg h2]
        exact ⟨_, _, rfl, rfl, rfl, rfl, rfl, rfl⟩) ⟨rfl, rfl, rfl, rfl⟩
  obtain ⟨x1, x2, x3⟩ := x
  obtain ⟨y1, y2, y3⟩ := y
  obtain ⟨rfl, rfl⟩ := h8
  simp only [ea0, eb0, ea1, eb1, bsm, if_true, i_n1, i_m1, i_m2, i_m4, i_m6, h6, h7]
  by_cases c0 : nI w = 0
  · rw [if_pos c0, if_pos c0]
    exact ⟨_, _, rfl, rfl, rfl, hI⟩
  · rw [if_neg c0, if_neg c0]
    exact ⟨_, _, rfl, rfl, rfl, hI⟩
