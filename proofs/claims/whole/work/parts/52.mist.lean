/-! ===== the steps: mist ===== -/
theorem sumN_congr {f g : Nat → Nat} : ∀ n, (∀ i, i < n → f i = g i) → sumN f n = sumN g n
  | 0, _ => rfl
  | n + 1, h => by
    show sumN f n + f n = sumN g n + g n
    rw [sumN_congr n (fun i hi => h i (by omega)), h n (by omega)]
theorem sumN_head (f : Nat → Nat) : ∀ n, sumN f (n + 1) = f 0 + sumN (fun i => f (i + 1)) n
  | 0 => by
    show 0 + f 0 = f 0 + 0
    omega
  | n + 1 => by
    show sumN f (n + 1) + f (n + 1) = f 0 + (sumN (fun i => f (i + 1)) n + f (n + 1))
    rw [sumN_head f n]
    omega
theorem sumN_split (f : Nat → Nat) (a : Nat) : ∀ b, sumN f (a + b) = sumN f a + sumN (fun i => f (a + i)) b
  | 0 => rfl
  | b + 1 => by
    show sumN f (a + b) + f (a + b) = sumN f a + (sumN (fun i => f (a + i)) b + f (a + b))
    rw [sumN_split f a b]
    omega
theorem sumN_mul (f : Nat → Nat) (u : Nat) : ∀ n, sumN (fun k => f k * u) n = sumN f n * u
  | 0 => (Nat.zero_mul u).symm
  | n + 1 => by
    show sumN (fun k => f k * u) n + f n * u = (sumN f n + f n) * u
    rw [sumN_mul f u n, Nat.add_mul]
theorem sumN_add (f g : Nat → Nat) : ∀ n, sumN (fun k => f k + g k) n = sumN f n + sumN g n
  | 0 => rfl
  | n + 1 => by
    show sumN (fun k => f k + g k) n + (f n + g n) = (sumN f n + f n) + (sumN g n + g n)
    rw [sumN_add f g n]
    omega
/-- how many ways have k mists -/
def wN (u : Nat) : Nat → Nat → Nat
  | 0, 0 => 1
  | 0, _ + 1 => 0
  | i + 1, 0 => wN u i 0 * u
  | i + 1, k + 1 => wN u i (k + 1) * u + wN u i k
def cN (u : Nat) : Nat → (Nat → Nat) → Nat
  | 0, F => F 0
  | n + 1, F => cN u n F * u + cN u n (fun k => F (k + 1))
theorem wN_0 (u : Nat) : ∀ n k, n < k → wN u n k = 0
  | 0, 0, h => by omega
  | 0, k + 1, _ => rfl
  | n + 1, 0, h => by omega
  | n + 1, k + 1, h => by
    show wN u n (k + 1) * u + wN u n k = 0
    rw [wN_0 u n (k + 1) (by omega), wN_0 u n k (by omega), Nat.zero_mul]
theorem sum_w (u : Nat) : ∀ n F, sumN (fun k => F k * wN u n k) (n + 1) = cN u n F
  | 0, F => by
    show 0 + F 0 * 1 = F 0
    omega
  | n + 1, F => by
    have h1 : sumN (fun k => F k * wN u n k) (n + 2) = cN u n F := by
      show sumN (fun k => F k * wN u n k) (n + 1) + F (n + 1) * wN u n (n + 1) = _
      rw [sum_w u n F, wN_0 u n (n + 1) (by omega), Nat.mul_zero, Nat.add_zero]
    have h2 := sum_w u n (fun k => F (k + 1))
    rw [sumN_head] at h1
    rw [sumN_head]
    show F 0 * (wN u n 0 * u) + sumN (fun i => F (i + 1) * (wN u n (i + 1) * u + wN u n i)) (n + 1) = cN u n F * u + cN u n (fun k => F (k + 1))
    have h3 : sumN (fun i => F (i + 1) * (wN u n (i + 1) * u + wN u n i)) (n + 1) = sumN (fun i => F (i + 1) * wN u n (i + 1)) (n + 1) * u + sumN (fun i => F (i + 1) * wN u n i) (n + 1) := by
      rw [← sumN_mul, ← sumN_add]
      apply sumN_congr
      intro i _
      rw [Nat.mul_add, Nat.mul_assoc]
    rw [h3, h2, ← h1, Nat.add_mul, Nat.mul_assoc, Nat.add_assoc]
def pcN (m : Nat) : Nat → Nat
  | 0 => 0
  | i + 1 => pcN m i + (if m.testBit i = true then 1 else 0)
def wgt (u m : Nat) : Nat → Nat
  | 0 => 1
  | i + 1 => wgt u m i * (if m.testBit i = true then 1 else u)
theorem low_same (u m n : Nat) : ∀ i, i ≤ n → pcN (2 ^ n + m) i = pcN m i ∧ wgt u (2 ^ n + m) i = wgt u m i
  | 0, _ => ⟨rfl, rfl⟩
  | i + 1, h => by
    obtain ⟨h1, h2⟩ := low_same u m n i (by omega)
    have h3 := Nat.testBit_two_pow_add_gt (show i < n by omega) m
    constructor
    · show pcN (2 ^ n + m) i + (if (2 ^ n + m).testBit i = true then 1 else 0) = pcN m i + (if m.testBit i = true then 1 else 0)
      rw [h1, h3]
    · show wgt u (2 ^ n + m) i * (if (2 ^ n + m).testBit i = true then 1 else u) = wgt u m i * (if m.testBit i = true then 1 else u)
      rw [h2, h3]
theorem sum_m (u : Nat) : ∀ n F, sumN (fun m => F (pcN m n) * wgt u m n) (2 ^ n) = cN u n F
  | 0, F => by
    show 0 + F 0 * 1 = F 0
    omega
  | n + 1, F => by
    rw [show 2 ^ (n + 1) = 2 ^ n + 2 ^ n by rw [Nat.pow_succ]; omega, sumN_split]
    have h1 : sumN (fun m => F (pcN m (n + 1)) * wgt u m (n + 1)) (2 ^ n) = cN u n F * u := by
      rw [← sum_m u n F, ← sumN_mul]
      apply sumN_congr
      intro m hm
      have hb : m.testBit n = false := Nat.testBit_lt_two_pow hm
      show F (pcN m n + (if m.testBit n = true then 1 else 0)) * (wgt u m n * (if m.testBit n = true then 1 else u)) = _
      rw [hb, if_neg (by decide), if_neg (by decide), Nat.add_zero, Nat.mul_assoc]
    have h2 : sumN (fun i => F (pcN (2 ^ n + i) (n + 1)) * wgt u (2 ^ n + i) (n + 1)) (2 ^ n) = cN u n (fun k => F (k + 1)) := by
      rw [← sum_m u n (fun k => F (k + 1))]
      apply sumN_congr
      intro m hm
      obtain ⟨k1, k2⟩ := low_same u m n n (Nat.le_refl n)
      have hb : (2 ^ n + m).testBit n = true := by
        rw [Nat.testBit_two_pow_add_eq, Nat.testBit_lt_two_pow hm]
        rfl
      show F (pcN (2 ^ n + m) n + (if (2 ^ n + m).testBit n = true then 1 else 0)) * (wgt u (2 ^ n + m) n * (if (2 ^ n + m).testBit n = true then 1 else u)) = _
      rw [hb, if_pos rfl, if_pos rfl, k1, k2, Nat.mul_one]
    rw [h1, h2]
    rfl
theorem cN_le (u : Nat) : ∀ n F, (∀ k, F k ≤ 1) → cN u n F ≤ (u + 1) ^ n
  | 0, F, h => h 0
  | n + 1, F, h => by
    have h1 := cN_le u n F h
    have h2 := cN_le u n (fun k => F (k + 1)) (fun k => h (k + 1))
    have h3 : cN u n F * u ≤ (u + 1) ^ n * u := Nat.mul_le_mul_right u h1
    show cN u n F * u + cN u n (fun k => F (k + 1)) ≤ (u + 1) ^ (n + 1)
    rw [Nat.pow_succ, Nat.mul_add, Nat.mul_one]
    omega
theorem pow_small {t n : Nat} (ht0 : 2 ≤ t) (ht : t ≤ 20) (hn : n ≤ 7) : 0 < t ^ n ∧ t ^ n < 2 ^ 31 := by
  have h1 : t ^ n ≤ 20 ^ n := Nat.pow_le_pow_left ht n
  have h2 : 20 ^ n ≤ 20 ^ 7 := Nat.pow_le_pow_right (by omega) hn
  have h3 : 0 < t ^ n := Nat.pow_pos (by omega)
  have h4 : (20 : Nat) ^ 7 < 2 ^ 31 := by decide
  omega
theorem imx {a b : Nat} (ha : a < 2 ^ 30) (hb : b < 2 ^ 30) : imax 0 (nI a - nI b) = nI (a - b) := by
  unfold imax
  by_cases h : b ≤ a
  · rw [pk_sub h, if_ltn (u := 0) (a := 0) rfl rfl (by omega) (by omega)]
    by_cases h2 : 0 < a - b
    · rw [if_pos h2]
    · rw [if_neg h2, show a - b = 0 by omega]
      rfl
  · have h2 := pk_sneg (a := a) (b := b) hb (by omega)
    rw [if_neg (fun q => absurd (Int32.lt_trans q h2) Int32.lt_irrefl), show a - b = 0 by omega]
    rfl
theorem rx_ways {n t : Nat} (hn : n ≤ 7) (ht : t ≤ 20) : lp (bX4_mist_82 (nI n) (nI t)) fu (1, 0) = some (lN (t ^ n)) := by
  refine lp_fu (fun i => (lN (t ^ i), nI i)) n _ rfl ?_ ?_ (by omega)
  · intro i hi
    dsimp only [bX4_mist_82]
    rw [if_len rfl rfl (by omega) (by omega), if_neg (by omega), nI_l (by omega), lN_mul, nI_1, Nat.pow_succ]
  · dsimp only [bX4_mist_82]
    rw [if_len rfl rfl (by omega) (by omega), if_pos (Nat.le_refl n)]
theorem rx_mask {r : Nat → Int32} {L : LdN} (hR : RR r L) (hV : LdV L) (hT : eT L ≤ 999) {n u m : Nat} (hn : n ≤ 7) (hu : u < 20) (hm : m < 128) : ∃ r', lp (bX4_mist_129 (nI n) (nI (u + 1)) (nI m)) fu (1, 0, r) = some (lN (wgt u m n), r') ∧ RR r' (sE (hrsL L n) (eE L - 3 * pcN m n)) := by
  have hE := hV.2.2.2.2.2.2.2.2.1
  obtain ⟨x, h1, h2, h3⟩ := lp_rel (body := bX4_mist_129 (nI n) (nI (u + 1)) (nI m)) (s0 := (1, 0, r)) (fun i s => s.1 = lN (wgt u m i) ∧ s.2.1 = nI i ∧ RR s.2.2 (sE (hrsL L i) (eE L - 3 * pcN m i))) (fun x => x.1 = lN (wgt u m n) ∧ RR x.2 (sE (hrsL L n) (eE L - 3 * pcN m n))) n (by
    rintro i ⟨s1, s2, s3⟩ hi ⟨e1, e2, hR1⟩
    dsimp only at e1 e2 hR1
    subst e1; subst e2
    have hV1 := hv_i hV hT (i := i) (by omega)
    dsimp only [bX4_mist_129]
    rw [if_len rfl rfl (by omega) (by omega), if_neg (by omega), has_eq (by omega) (by omega), show nI (u + 1) - 1 = nI u from nI_pred u, nI_l (by omega)]
    simp only [bsm, i_b0, nI_1]
    by_cases hb : m.testBit i = true
    · have hR2 := rr_sE (v := eE L - 3 * pcN m (i + 1)) hR1
      have hV2 := lv_sE (v := eE L - 3 * pcN m (i + 1)) hV1 (by omega)
      obtain ⟨r', p1, p2⟩ := rx_hour (L := sE (hrsL L i) (eE L - 3 * pcN m (i + 1))) hR2 hV2 (by show eT (hrsL L i) + 1 ≤ 4000; rw [hrsL_T]; omega)
      have hp : pcN m (i + 1) = pcN m i + 1 := by
        show pcN m i + (if m.testBit i = true then 1 else 0) = _
        rw [if_pos hb]
      have he : (if (3 : Int32) ≤ s3 2 then some (upd s3 2 (s3 2 - 3)) else some (upd s3 2 0)) = some (upd s3 2 (nI (eE L - 3 * pcN m (i + 1)))) := by
        have hs : s3 2 = nI (eE L - 3 * pcN m i) := hR1.2.2.1
        rw [hs, if_len (u := 3) (a := 3) rfl rfl (by omega) (by omega), hp]
        by_cases h3 : 3 ≤ eE L - 3 * pcN m i
        · rw [if_pos h3, show nI (eE L - 3 * pcN m i) - 3 = nI (eE L - 3 * pcN m i - 3) from pk_sub (b := 3) h3, show eE L - 3 * pcN m i - 3 = eE L - 3 * (pcN m i + 1) by omega]
        · rw [if_neg h3, show eE L - 3 * (pcN m i + 1) = 0 by omega]
          rfl
      rw [if_pos hb, if_pos hb, cl_2, he]
      simp only [bsm, p1]
      refine ⟨_, rfl, ?_, rfl, p2⟩
      show lN (wgt u m i) * 1 = lN (wgt u m i * (if m.testBit i = true then 1 else u))
      rw [if_pos hb, ← lN_mul]
      rfl
    · have hV2 := lv_sE (v := eE L - 3 * pcN m i) hV1 (by omega)
      obtain ⟨r', p1, p2⟩ := rx_hour (L := sE (hrsL L i) (eE L - 3 * pcN m i)) hR1 hV2 (by show eT (hrsL L i) + 1 ≤ 4000; rw [hrsL_T]; omega)
      have hp : pcN m (i + 1) = pcN m i := by
        show pcN m i + (if m.testBit i = true then 1 else 0) = _
        rw [if_neg hb]
        rfl
      rw [if_neg hb, if_neg hb]
      simp only [bsm, p1]
      refine ⟨_, rfl, ?_, rfl, by rw [hp]; exact p2⟩
      show lN (wgt u m i) * lN u = lN (wgt u m i * (if m.testBit i = true then 1 else u))
      rw [if_neg hb, lN_mul]) (by
    rintro ⟨s1, s2, s3⟩ ⟨e1, e2, hR1⟩
    dsimp only at e1 e2 hR1
    subst e1; subst e2
    dsimp only [bX4_mist_129]
    rw [if_len rfl rfl (by omega) (by omega), if_pos (Nat.le_refl n)]
    exact ⟨_, rfl, rfl, hR1⟩) (by omega) ⟨rfl, rfl, hR⟩
  obtain ⟨x1, x2⟩ := x
  dsimp only at h2 h3
  subst h2
  exact ⟨x2, h1, h3⟩
/-- whether the verdict is v behind n hours with k mists -/
def mF (L : LdN) (n b v k : Nat) : Nat := if vrd (sE (hrsL L n) (eE L - 3 * k)) b = v then 1 else 0
theorem mF_le (L : LdN) (n b v k : Nat) : mF L n b v k ≤ 1 := by
  unfold mF
  split <;> omega
theorem rx_fit {r m0 : Nat → Int32} {L : LdN} (hR : RR r L) (hV : LdV L) (hT : eT L ≤ 999) {n u b v : Nat} (hn : n ≤ 7) (hu : u < 20) (hb : b < 10) (hv : v ≤ 2) : ∃ r', lp (bX4_mist_104 (nI b) (nI n) (nI (u + 1)) (nI v) r) fu (0, 0, m0) = some (lN (cN u n (mF L n b v)), r') := by
  have hE := hV.2.2.2.2.2.2.2.2.1
  have hp : 2 ^ n ≤ 2 ^ 7 := Nat.pow_le_pow_right (by omega) hn
  rw [← sum_m u n (mF L n b v)]
  obtain ⟨x, h1, h2⟩ := lp_rel (body := bX4_mist_104 (nI b) (nI n) (nI (u + 1)) (nI v) r) (s0 := (0, 0, m0)) (fun i s => s.1 = lN (sumN (fun m => mF L n b v (pcN m n) * wgt u m n) i) ∧ s.2.1 = nI i) (fun x => x.1 = lN (sumN (fun m => mF L n b v (pcN m n) * wgt u m n) (2 ^ n))) (2 ^ n) (by
    rintro i ⟨s1, s2, s3⟩ hi ⟨e1, e2⟩
    dsimp only at e1 e2
    subst e1; subst e2
    obtain ⟨r1, q1, hR1⟩ := rx_copy (r2 := s3) hR
    obtain ⟨r2, q2, hR2⟩ := rx_mask hR1 hV hT (n := n) (u := u) (m := i) hn hu (by omega)
    have hV2 := lv_sE (v := eE L - 3 * pcN i n) (hv_i hV hT (i := n) (by omega)) (by omega)
    have hl := vr_le hV2 b
    dsimp only [bX4_mist_104]
    rw [n_shl n (by omega), if_len rfl rfl (by omega) (by omega), if_neg (by omega), q1]
    simp only [bsm, q2]
    rw [rx_verd hR2 hV2 (by omega)]
    simp only [bsm, nI_1]
    rw [if_eqn rfl (by omega) (by omega)]
    by_cases h : vrd (sE (hrsL L n) (eE L - 3 * pcN i n)) b = v
    · rw [if_pos h]
      refine ⟨_, rfl, ?_, rfl⟩
      show lN (sumN (fun m => mF L n b v (pcN m n) * wgt u m n) i) + lN (wgt u i n) = lN (sumN (fun m => mF L n b v (pcN m n) * wgt u m n) i + (mF L n b v (pcN i n) * wgt u i n))
      rw [lN_add]
      unfold mF
      rw [if_pos h, Nat.one_mul]
    · rw [if_neg h]
      refine ⟨_, rfl, ?_, rfl⟩
      show lN (sumN (fun m => mF L n b v (pcN m n) * wgt u m n) i) + lN 0 = lN (sumN (fun m => mF L n b v (pcN m n) * wgt u m n) i + (mF L n b v (pcN i n) * wgt u i n))
      rw [lN_add]
      unfold mF
      rw [if_neg h, Nat.zero_mul]) (by
    rintro ⟨s1, s2, s3⟩ ⟨e1, e2⟩
    dsimp only at e1 e2
    subst e1; subst e2
    dsimp only [bX4_mist_104]
    rw [n_shl n (by omega), if_len rfl rfl (by omega) (by omega), if_pos (Nat.le_refl _)]
    exact ⟨_, rfl, rfl⟩) (by omega) ⟨rfl, rfl⟩
  obtain ⟨x1, x2⟩ := x
  dsimp only at h2
  subst h2
  exact ⟨x2, h1⟩
theorem gx_w1 {u : Nat} (hu : u < 20) {i : Nat} {f : Nat → Int64} (hf : ∀ k, k ≤ 7 → f k = lN (wN u i k)) : ∃ f', lp (bX3_weighMists_44 (nI (u + 1))) fu (7, f) = some f' ∧ f' 0 = lN (wN u i 0) ∧ ∀ k, 0 < k → k ≤ 7 → f' k = lN (wN u (i + 1) k) := by
  refine lp_rel (body := bX3_weighMists_44 (nI (u + 1))) (s0 := (7, f)) (fun j s => s.1 = nI (7 - j) ∧ (∀ k, k ≤ 7 - j → s.2 k = lN (wN u i k)) ∧ ∀ k, 7 - j < k → k ≤ 7 → s.2 k = lN (wN u (i + 1) k)) (fun f' => f' 0 = lN (wN u i 0) ∧ ∀ k, 0 < k → k ≤ 7 → f' k = lN (wN u (i + 1) k)) 7 ?_ ?_ (by omega) ⟨rfl, hf, fun k h1 h2 => by omega⟩
  · rintro j ⟨s1, s2⟩ hj ⟨e1, e2, e3⟩
    dsimp only at e1 e2 e3
    subst e1
    obtain ⟨k, hk⟩ : ∃ k, 7 - j = k + 1 := ⟨6 - j, by omega⟩
    rw [hk] at e2 e3
    dsimp only [bX3_weighMists_44]
    rw [hk, if_neg (nI_nle (by omega) (by omega)), if_ob (show k + 1 < 8 by omega) (by omega), nI_pred, if_ob (show k < 8 by omega) (by omega), if_ob (show k + 1 < 8 by omega) (by omega), cl (by omega), cl (by omega), pk_m1, nI_pred, nI_l (by omega), e2 (k + 1) (Nat.le_refl _), e2 k (by omega), lN_mul, lN_add]
    refine ⟨_, rfl, by rw [show 7 - (j + 1) = k by omega], fun k2 h2 => ?_, fun k2 h2 h3 => ?_⟩
    · exact (pk_uLn (by omega)).trans (e2 k2 (by omega))
    · by_cases q : k2 = k + 1
      · rw [q]
        exact pk_uLs
      · exact (pk_uLn q).trans (e3 k2 (by omega) h3)
  · rintro ⟨s1, s2⟩ ⟨e1, e2, e3⟩
    dsimp only at e1 e2 e3
    subst e1
    refine ⟨s2, ?_, e2 0 (by omega), fun k h1 h2 => e3 k (by omega) h2⟩
    dsimp only [bX3_weighMists_44]
    rw [if_pos (show nI (7 - 7) ≤ 0 by decide)]
theorem gx_weigh {n u : Nat} (hn : n ≤ 7) (hu : u < 20) (yo : Nat → Int64) : ∃ f, fX3_weighMists (nI n) (nI (u + 1)) yo = some (lN ((u + 1) ^ n), f) ∧ ∀ k, k ≤ 7 → f k = lN (wN u n k) := by
  obtain ⟨f0, h1, h2⟩ := lp_rel (body := bX3_weighMists_2) (s0 := (0, yo)) (fun i s => s.1 = nI i ∧ ∀ k, k < i → s.2 k = lN (wN u 0 k)) (fun f => ∀ k, k ≤ 7 → f k = lN (wN u 0 k)) 8 (by
    rintro i ⟨s1, s2⟩ hi ⟨e1, e2⟩
    dsimp only at e1 e2
    subst e1
    dsimp only [bX3_weighMists_2]
    rw [if_ltn (u := 7) (a := 7) rfl rfl (by omega) (by omega), if_neg (by omega), if_eqn (v := 0) (k := 0) rfl (by omega) (by omega), if_ob (show i < 8 by omega) (by omega), if_ob (show i < 8 by omega) (by omega), cl (by omega), nI_1]
    by_cases h0 : i = 0
    · subst h0
      rw [if_pos rfl]
      refine ⟨_, rfl, rfl, fun k hk => ?_⟩
      rw [show k = 0 by omega]
      show vp_updL s2 0 1 0 = lN 1
      rw [pk_uLs]
      rfl
    · rw [if_neg h0]
      refine ⟨_, rfl, rfl, fun k hk => ?_⟩
      by_cases q : k = i
      · obtain ⟨k', rfl⟩ : ∃ k', i = k' + 1 := ⟨i - 1, by omega⟩
        rw [q]
        exact pk_uLs
      · exact (pk_uLn q).trans (e2 k (by omega))) (by
    rintro ⟨s1, s2⟩ ⟨e1, e2⟩
    dsimp only at e1 e2
    subst e1
    exact ⟨_, rfl, fun k hk => e2 k (by omega)⟩) (by omega) ⟨rfl, fun k hk => absurd hk (Nat.not_lt_zero k)⟩
  obtain ⟨x, h3, h4, h5⟩ := lp_rel (body := bX3_weighMists_34 (nI n) (nI (u + 1))) (s0 := (1, 0, f0)) (fun i s => s.1 = lN ((u + 1) ^ i) ∧ s.2.1 = nI i ∧ ∀ k, k ≤ 7 → s.2.2 k = lN (wN u i k)) (fun x => x.1 = lN ((u + 1) ^ n) ∧ ∀ k, k ≤ 7 → x.2 k = lN (wN u n k)) n (by
    rintro i ⟨s1, s2, s3⟩ hi ⟨e1, e2, e3⟩
    dsimp only at e1 e2 e3
    subst e1; subst e2
    obtain ⟨f', p1, p2, p3⟩ := gx_w1 hu e3
    dsimp only [bX3_weighMists_34]
    rw [if_len rfl rfl (by omega) (by omega), if_neg (by omega), p1]
    simp only [bsm, nI_1, cl_0]
    rw [p2, nI_pred, nI_l (show u + 1 < 2 ^ 31 by omega), nI_l (show u < 2 ^ 31 by omega), lN_mul, lN_mul]
    refine ⟨_, rfl, by rw [Nat.pow_succ], rfl, fun k hk => ?_⟩
    by_cases q : k = 0
    · rw [q]
      show vp_updL f' 0 (lN (wN u i 0 * u)) 0 = lN (wN u i 0 * u)
      exact pk_uLs
    · exact (pk_uLn q).trans (p3 k (by omega) hk)) (by
    rintro ⟨s1, s2, s3⟩ ⟨e1, e2, e3⟩
    dsimp only at e1 e2 e3
    subst e1; subst e2
    dsimp only [bX3_weighMists_34]
    rw [if_len rfl rfl (by omega) (by omega), if_pos (Nat.le_refl n)]
    exact ⟨_, rfl, rfl, e3⟩) (by omega) ⟨rfl, rfl, h2⟩
  obtain ⟨x1, x2⟩ := x
  dsimp only at h4 h5
  subst h4
  refine ⟨x2, ?_, h5⟩
  unfold fX3_weighMists
  rw [h1]
  simp only [bsm]
  rw [h3]
  rfl
theorem gx_fit {g y : LandT} {L : LdN} {x7 : Int64 × (Nat → Int64)} {n u b v : Nat} (hG : GR g (hrsL L n)) (hE0 : gE y = nI (eE L)) (hV : LdV L) (hT : eT L ≤ 999) (hn : n ≤ 7) (hb : b < 10) (hv : v ≤ 2) (hx : ∀ k, k ≤ 7 → x7.2 k = lN (wN u n k)) : ∃ g', lp (bX3_mist_92 (nI b) (nI n) (nI v) y x7) fu (0, 0, g) = some (lN (cN u n (mF L n b v)), g') := by
  have hE := hV.2.2.2.2.2.2.2.2.1
  rw [← sum_w u n (mF L n b v)]
  obtain ⟨x, h1, h2⟩ := lp_rel (body := bX3_mist_92 (nI b) (nI n) (nI v) y x7) (s0 := (0, 0, g)) (fun i s => s.1 = lN (sumN (fun k => mF L n b v k * wN u n k) i) ∧ s.2.1 = nI i ∧ ∃ e, GR s.2.2 (sE (hrsL L n) e)) (fun x => x.1 = lN (sumN (fun k => mF L n b v k * wN u n k) (n + 1))) (n + 1) (by
    rintro i ⟨s1, s2, s3⟩ hi ⟨e1, e2, e, hG1⟩
    dsimp only at e1 e2 hG1
    subst e1; subst e2
    have hV2 := lv_sE (v := eE L - 3 * i) (hv_i hV hT (i := n) (by omega)) (by omega)
    have hG2 : GR (gH s3, gR s3, gK s3, gF s3, gP s3, gV s3, gQ s3, gN s3, gD s3, nI (eE L - 3 * i), gT s3) (sE (hrsL L n) (eE L - 3 * i)) := by
      have hG3 := gg_sE (v := eE L - 3 * i) hG1
      exact hG3
    have hl := vr_le hV2 b
    dsimp only [bX3_mist_92]
    rw [if_ltn rfl rfl (by omega) (by omega), if_neg (by omega), hE0, show (3 : Int32) * nI i = nI (3 * i) from pk_mul 3 i, imx (by omega) (by omega), gx_vfrom hG2 hV2 (by omega)]
    simp only [bsm, nI_1]
    rw [if_eqn rfl (by omega) (by omega), if_ob (show i < 8 by omega) (by omega), cl (by omega), hx i (by omega)]
    by_cases h : vrd (sE (hrsL L n) (eE L - 3 * i)) b = v
    · rw [if_pos h]
      refine ⟨_, rfl, ?_, rfl, _, hG2⟩
      show lN (sumN (fun k => mF L n b v k * wN u n k) i) + lN (wN u n i) = lN (sumN (fun k => mF L n b v k * wN u n k) i + (mF L n b v i * wN u n i))
      rw [lN_add]
      unfold mF
      rw [if_pos h, Nat.one_mul]
    · rw [if_neg h]
      refine ⟨_, rfl, ?_, rfl, _, hG2⟩
      show lN (sumN (fun k => mF L n b v k * wN u n k) i) = lN (sumN (fun k => mF L n b v k * wN u n k) i + (mF L n b v i * wN u n i))
      unfold mF
      rw [if_neg h, Nat.zero_mul, Nat.add_zero]) (by
    rintro ⟨s1, s2, s3⟩ ⟨e1, e2, -⟩
    dsimp only at e1 e2
    subst e1; subst e2
    dsimp only [bX3_mist_92]
    rw [if_ltn rfl rfl (by omega) (by omega), if_pos (by omega)]
    exact ⟨_, rfl, rfl⟩) (by omega) ⟨rfl, rfl, eE (hrsL L n), hG⟩
  obtain ⟨x1, x2⟩ := x
  dsimp only at h2
  subst h2
  exact ⟨x2, h1⟩
set_option maxHeartbeats 2000000 in
theorem st_mist (yn : LandT) (ym : LandT) (yk : LandT) (yl : (Nat → Int32)) (yt : Int32) (yd : Int32) (yu : (Nat → Int32)) (ye : (Nat → Int32)) (yv : (Nat → Int32)) (yo : (Nat → Int64)) (y0 : (Nat → Int32)) (y1 : (Nat → Int32)) (yc : Int32) (yh : Int32) (xs : (Nat → Int32)) (xm : (Nat → Int32)) (xi : (Nat → Int32)) (xw : (Nat → Int32)) (xh : Int32) (xl : (Nat → Int32)) (xr : (Nat → Int32)) (xe : (Nat → Int32)) (xn : Int32) (xo : Int32) (xp : Int32) (xu : (Nat → Int32)) (xd : Int32) (v1 : Int32) (v2 : Int32) (v3 : Int32) (v4 : Int32) (v5 : Int32) (hI : Inv yn yk yl yt yu ye yc yh xs xi xh xl xr xe xn xo) : ∃ (ra : Int64 × LandT × (Nat → Int32) × (Nat → Int64)) (rb : Int64 × (Nat → Int32) × (Nat → Int32)), fX3_mist v1 v2 v3 v4 v5 yn ym ye yo = some ra ∧ fX4_mist v1 v2 v3 v4 v5 xs xm xe = some rb ∧ ra.1 = rb.1 ∧ Inv yn yk yl yt yu ra.2.2.1 yc yh xs xi xh xl xr rb.2.2 xn xo := by
  obtain ⟨⟨L, hS, hG, hR⟩, h2, h3, h4, h5⟩ := id hI
  have hV := hS.1
  have hT := hS.2
  have hN := hV.2.2.2.2.2.2.1
  unfold fX3_mist fX4_mist
  rcases cs_branch v1 with ⟨ea, eb⟩ | ⟨b, hb, rfl, ea, eb⟩
  · obtain ⟨z, u, w, q1, q2, q3⟩ := rfw h5 (c := -1) (k := 1) (by omega) rfl
    simp only [ea, eb, bsm, if_true, i_n1, i_m1, i_m2, i_m4, i_m6]
    rw [q1, q2]
    exact ⟨_, _, rfl, rfl, rfl, inv_ref hI q3⟩
  by_cases c1 : v2 < 0
  · obtain ⟨z, u, w, q1, q2, q3⟩ := rfw h5 (c := -4) (k := 4) (by omega) rfl
    simp only [ea, eb, if_pos c1, bsm, if_true, i_n1, i_m1, i_m2, i_m4, i_m6]
    rw [q1, q2]
    exact ⟨_, _, rfl, rfl, rfl, inv_ref hI q3⟩
  by_cases c2n : ¬ (2 : Int32) ≤ v3
  · obtain ⟨z, u, w, q1, q2, q3⟩ := rfw h5 (c := -4) (k := 4) (by omega) rfl
    simp only [ea, eb, if_neg c1, if_neg c2n, bsm, if_true, i_n1, i_m1, i_m2, i_m4, i_m6]
    rw [q1, q2]
    exact ⟨_, _, rfl, rfl, rfl, inv_ref hI q3⟩
  have c2 : (2 : Int32) ≤ v3 := Classical.not_not.mp c2n
  by_cases c3 : (7 : Int32) < v2
  · obtain ⟨z, u, w, q1, q2, q3⟩ := rfw h5 (c := -6) (k := 6) (by omega) rfl
    simp only [ea, eb, if_neg c1, if_pos c2, if_pos c3, bsm, if_true, i_n1, i_m1, i_m2, i_m4, i_m6]
    rw [q1, q2]
    exact ⟨_, _, rfl, rfl, rfl, inv_ref hI q3⟩
  by_cases c4n : ¬ v3 ≤ 20
  · obtain ⟨z, u, w, q1, q2, q3⟩ := rfw h5 (c := -6) (k := 6) (by omega) rfl
    simp only [ea, eb, if_neg c1, if_pos c2, if_neg c3, if_neg c4n, bsm, if_true, i_n1, i_m1, i_m2, i_m4, i_m6]
    rw [q1, q2]
    exact ⟨_, _, rfl, rfl, rfl, inv_ref hI q3⟩
  have c4 : v3 ≤ 20 := Classical.not_not.mp c4n
  rcases cs_verdict v4 with ⟨ec, ed⟩ | ⟨v, hv, rfl, ec, ed⟩
  · obtain ⟨z, u, w, q1, q2, q3⟩ := rfw h5 (c := -2) (k := 2) (by omega) rfl
    simp only [ea, eb, if_neg c1, if_pos c2, if_neg c3, if_pos c4, ec, ed, bsm, if_true, i_n1, i_m1, i_m2, i_m4, i_m6]
    rw [q1, q2]
    exact ⟨_, _, rfl, rfl, rfl, inv_ref hI q3⟩
  rcases cs_either v5 with ⟨ee, ef⟩ | ⟨w, hw, rfl, ee, ef⟩
  · obtain ⟨z, u, w, q1, q2, q3⟩ := rfw h5 (c := -2) (k := 2) (by omega) rfl
    simp only [ea, eb, if_neg c1, if_pos c2, if_neg c3, if_pos c4, ec, ed, ee, ef, bsm, if_true, i_n1, i_m1, i_m2, i_m4, i_m6]
    rw [q1, q2]
    exact ⟨_, _, rfl, rfl, rfl, inv_ref hI q3⟩
  obtain ⟨n, hn, rfl⟩ := nI_of c1
  have hn7 : n ≤ 7 := by
    have : ¬ 7 < n := fun q => c3 ((n_lt (a := 7) (by omega) hn).mpr q)
    omega
  have c0 : ¬ v3 < 0 := fun q => absurd (Int32.lt_of_lt_of_le q (show (0 : Int32) ≤ 2 by decide)) (Int32.not_lt.mpr c2)
  obtain ⟨t, ht, rfl⟩ := nI_of c0
  have ht2 : 2 ≤ t := (n_le (a := 2) (by omega) ht).mp c2
  have ht20 : t ≤ 20 := (n_le (b := 20) ht (by omega)).mp c4
  obtain ⟨u, rfl⟩ : ∃ u, t = u + 1 := ⟨t - 1, by omega⟩
  obtain ⟨f, j1, j2⟩ := gx_weigh hn7 (u := u) (by omega) yo
  obtain ⟨g1, j3, j4⟩ := gx_then hG hV (n := n) (by omega) hT
  obtain ⟨g2, j5⟩ := gx_fit (x7 := (lN ((u + 1) ^ n), f)) (u := u) (b := b) (v := v) j4 hG.2.2.2.2.2.2.2.2.2.1 hV hT hn7 hb (by omega) j2
  have k1 := rx_ways hn7 ht20
  obtain ⟨r2, k2⟩ := rx_fit (m0 := xm) hR hV hT hn7 (u := u) (b := b) (v := v) (by omega) hb (by omega)
  have hpow := pow_small ht2 ht20 hn7
  have hc := cN_le u n (mF L n b v) (mF_le L n b v)
  obtain ⟨z, p1, p2⟩ := bx_part (a := cN u n (mF L n b v)) (b := (u + 1) ^ n) (w := w) (by omega) hpow.1 hpow.2 hw
  simp only [ea, eb, if_neg c1, if_pos c2, if_neg c3, if_pos c4, ec, ed, ee, ef, bsm, if_true, i_n1, i_m1, i_m2, i_m4, i_m6, j1, j3 ym, j5, k1, k2, p1, p2]
  exact ⟨_, _, rfl, rfl, rfl, hI⟩
