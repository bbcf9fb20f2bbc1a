/-! ===== a land's words in numbers, and both sides' answers by them: steps, tops, sights, verdicts ===== -/
theorem if_eqn {α : Type} {a k : Nat} {v : Int32} {x y : α} (hv : v = nI k) (ha : a < 2 ^ 31) (hk : k < 2 ^ 31) : (if nI a = v then x else y) = (if a = k then x else y) := by
  subst hv
  by_cases h : a = k
  · rw [if_pos h, if_pos (by rw [h])]
  · rw [if_neg h, if_neg (fun q => h ((n_eq ha hk).mp q))]
theorem if_len {α : Type} {a k : Nat} {u v : Int32} {x y : α} (hu : u = nI a) (hv : v = nI k) (ha : a < 2 ^ 31) (hk : k < 2 ^ 31) : (if u ≤ v then x else y) = (if a ≤ k then x else y) := by
  subst hu; subst hv
  by_cases h : a ≤ k
  · rw [if_pos h, if_pos ((n_le ha hk).mpr h)]
  · rw [if_neg h, if_neg (fun q => h ((n_le ha hk).mp q))]
theorem if_ltn {α : Type} {a k : Nat} {u v : Int32} {x y : α} (hu : u = nI a) (hv : v = nI k) (ha : a < 2 ^ 31) (hk : k < 2 ^ 31) : (if u < v then x else y) = (if a < k then x else y) := by
  subst hu; subst hv
  by_cases h : a < k
  · rw [if_pos h, if_pos ((n_lt ha hk).mpr h)]
  · rw [if_neg h, if_neg (fun q => h ((n_lt ha hk).mp q))]
def goN (k f h : Nat) : Nat := if k = 2 then 1 else if k = 3 then (if h % (f + 2) = 0 then 1 else 0) else if k = 4 then 2 else 0
theorem goN_le (k f h : Nat) : goN k f h ≤ 2 := by
  unfold goN
  repeat' split
  all_goals omega
def upN (k f h : Nat) : Nat := if k = 1 then f + h % 2 else if k = 2 then 1 else if k = 3 then 1 else if k = 4 then 6 else if k = 5 then (if h % 2 = 0 then 2 else 0) else f
theorem upN_le {k f h : Nat} (hf : f ≤ 9) : upN k f h ≤ 10 := by
  unfold upN
  repeat' split
  all_goals omega
theorem goes_eq {k f h : Nat} (hk : k < 6) (hf : f ≤ 9) (hh : h < 2 ^ 30) : fX4_goesBy (nI k) (nI f) (nI h) = some (nI (goN k f h)) := by
  unfold fX4_goesBy goN
  rw [if_eqn (v := 2) (k := 2) rfl (by omega) (by omega), if_eqn (v := 3) (k := 3) rfl (by omega) (by omega), if_eqn (v := 4) (k := 4) rfl (by omega) (by omega), show nI f + 2 = nI (f + 2) from nI_add f 2, if_eqn (v := 0) (k := 0) rfl (by omega) (by omega), if_neg (show ¬ f + 2 = 0 by omega), irem_n (by omega) (by omega) (by omega), if_eqn (v := 0) (k := 0) rfl (Nat.lt_of_le_of_lt (Nat.mod_le _ _) (by omega)) (by omega)]
  repeat' split
  all_goals rfl
theorem up_eq {k f h : Nat} (hk : k < 6) (hf : f ≤ 9) (hh : h < 2 ^ 30) : fX4_upBy (nI k) (nI f) (nI h) = some (nI (upN k f h)) := by
  unfold fX4_upBy upN
  rw [if_eqn (v := 1) (k := 1) rfl (by omega) (by omega), if_eqn (v := 2) (k := 2) rfl (by omega) (by omega), if_eqn (v := 3) (k := 3) rfl (by omega) (by omega), if_eqn (v := 4) (k := 4) rfl (by omega) (by omega), if_eqn (v := 5) (k := 5) rfl (by omega) (by omega), show irem (nI h) 2 = nI (h % 2) from irem_n (d := 2) (by omega) (by omega) (by omega), if_eqn (v := 0) (k := 0) rfl (by omega) (by omega), nI_add]
  repeat' split
  all_goals rfl
def topN (L : LdN) (t : Nat) : Nat := eH L (eC L t) + upN (eK L t) (eF L t) (eT L)
theorem topN_le {L : LdN} (hV : LdV L) (t : Nat) : topN L t ≤ 19 := by
  have h1 := hV.1 (eC L t)
  have h2 := upN_le (k := eK L t) (h := eT L) (hV.2.2.1 t)
  unfold topN
  omega
def clrB (L : LdN) (b c tp : Nat) : Bool := decide (c + 1 ≤ eE L) && (decide (0 < tp) && decide (∀ d, d < c → eH L d < max b tp))
def seeB (L : LdN) (b t : Nat) : Bool := !(eD L).testBit t && clrB L b (eC L t) (topN L t)
def sgtN (L : LdN) (b : Nat) : Nat → Nat
  | 0 => 0
  | k + 1 => sgtN L b k ||| (if seeB L b k = true then 2 ^ k else 0)
abbrev sght (L : LdN) (b : Nat) : Nat := sgtN L b (eN L)
def decN (L : LdN) (S : Nat) : Nat → Option Nat
  | 0 => none
  | k + 1 => if S.testBit k = true ∧ ¬ eV L (eK L k) = 0 then (match decN L S k with
      | none => some k
      | some d => if eQ L (eK L d) < eQ L (eK L k) then some k else some d) else decN L S k
def verO (L : LdN) : Option Nat → Nat
  | none => 0
  | some d => eV L (eK L d)
abbrev verN (L : LdN) (S : Nat) : Nat := verO L (decN L S (eN L))
abbrev vrd (L : LdN) (b : Nat) : Nat := verN L (sght L b)
def brsN (L : LdN) (v : Nat) : Nat → Nat
  | 0 => 0
  | k + 1 => brsN L v k ||| (if vrd L k = v then 2 ^ k else 0)
abbrev brs (L : LdN) (v : Nat) : Nat := brsN L v 10
theorem or_lt {a k x : Nat} (ha : a < 2 ^ k) (hx : x = 0 ∨ x = 2 ^ k) : a ||| x < 2 ^ (k + 1) := by
  apply Nat.or_lt_two_pow
  · rw [Nat.pow_succ]; omega
  · rw [Nat.pow_succ]
    rcases hx with rfl | rfl
    · have := Nat.two_pow_pos k
      omega
    · have := Nat.two_pow_pos k
      omega
theorem sgtN_lt (L : LdN) (b : Nat) : ∀ k, sgtN L b k < 2 ^ k
  | 0 => by simp [sgtN]
  | k + 1 => or_lt (sgtN_lt L b k) (by
    by_cases h : seeB L b k = true
    · rw [if_pos h]; exact Or.inr rfl
    · rw [if_neg h]; exact Or.inl rfl)
theorem brsN_lt (L : LdN) (v : Nat) : ∀ k, brsN L v k < 2 ^ k
  | 0 => by simp [brsN]
  | k + 1 => or_lt (brsN_lt L v k) (by
    by_cases h : vrd L k = v
    · rw [if_pos h]; exact Or.inr rfl
    · rw [if_neg h]; exact Or.inl rfl)
theorem sght_lt {L : LdN} (hV : LdV L) (b : Nat) : sght L b < 128 := by
  have h1 := sgtN_lt L b (eN L)
  have h2 : 2 ^ eN L ≤ 2 ^ 7 := Nat.pow_le_pow_right (by omega) hV.2.2.2.2.2.2.1
  exact Nat.lt_of_lt_of_le h1 h2
theorem decN_lt {L : LdN} {S : Nat} : ∀ {k d : Nat}, decN L S k = some d → d < k
  | 0, _, h => by cases h
  | k + 1, d, h => by
    unfold decN at h
    split at h
    · cases hd : decN L S k with
      | none =>
        rw [hd] at h
        have : k = d := Option.some.inj h
        omega
      | some d2 =>
        rw [hd] at h
        have h2 := decN_lt hd
        dsimp only at h
        split at h
        · have : k = d := Option.some.inj h
          omega
        · have : d2 = d := Option.some.inj h
          omega
    · have := decN_lt h
      omega
theorem vrd_le {L : LdN} (hV : LdV L) (S : Nat) : verN L S ≤ 2 := by
  unfold verN
  cases decN L S (eN L) with
  | none => exact Nat.zero_le 2
  | some d => exact hV.2.2.2.2.1 _
theorem gx_steps {g : LandT} {L : LdN} (hG : GR g L) (hV : LdV L) {t h : Nat} (ht : t < 7) (hh : h < 2 ^ 30) : fX0_stepsOf (nI t) (nI h) g = some (nI (goN (eK L t) (eF L t) h)) := by
  obtain ⟨-, -, gk, gf, -⟩ := hG
  rw [← goes_eq (hV.2.1 t) (hV.2.2.1 t) hh]
  have hF := hV.2.2.1 t
  unfold fX0_stepsOf fX4_goesBy fX0_divides
  rw [if_ob ht (by omega), if_ob ht (by omega), cl (by omega), gk t ht, gf t ht, show nI (eF L t) + 2 = nI (eF L t + 2) from nI_add _ 2]
  have hne : ¬ nI (eF L t + 2) = 0 := fun q => by
    have := (n_eq (b := 0) (by omega) (by omega)).mp q
    omega
  rw [if_neg hne, if_neg hne]
  by_cases h1 : irem (nI h) (nI (eF L t + 2)) = 0
  · rw [if_pos h1]; rfl
  · rw [if_neg h1]; rfl
theorem gx_rise {g : LandT} {L : LdN} (hG : GR g L) (hV : LdV L) {t : Nat} (ht : t < 7) : fX0_riseOf (nI t) g = some (nI (upN (eK L t) (eF L t) (eT L))) := by
  obtain ⟨-, -, gk, gf, -, -, -, -, -, -, gt⟩ := hG
  have hK := hV.2.1 t
  have hF := hV.2.2.1 t
  have hT := hV.2.2.2.2.2.2.2.2.2
  unfold fX0_riseOf upN
  rw [if_ob ht (by omega), if_ob ht (by omega), if_ob ht (by omega), cl (by omega), gk t ht, gf t ht, gt, if_eqn (v := 0) (k := 0) rfl (by omega) (by omega), if_eqn (v := 1) (k := 1) rfl (by omega) (by omega), if_eqn (v := 2) (k := 2) rfl (by omega) (by omega), if_eqn (v := 3) (k := 3) rfl (by omega) (by omega), if_eqn (v := 4) (k := 4) rfl (by omega) (by omega), if_eqn (v := 5) (k := 5) rfl (by omega) (by omega), show irem (nI (eT L)) 2 = nI (eT L % 2) from irem_n (d := 2) (by omega) (by omega) (by omega), if_eqn (v := 0) (k := 0) rfl (by omega) (by omega), nI_add]
  by_cases h0 : eK L t = 0
  · rw [if_pos h0, h0]; rfl
  · rw [if_neg h0]
    by_cases h5 : eK L t = 5
    · rw [h5]
      simp only [show ¬ (5 : Nat) = 1 by omega, show ¬ (5 : Nat) = 2 by omega, show ¬ (5 : Nat) = 3 by omega, show ¬ (5 : Nat) = 4 by omega, if_false, if_true]
      split <;> rfl
    · have : eK L t = 1 ∨ eK L t = 2 ∨ eK L t = 3 ∨ eK L t = 4 := by omega
      rcases this with h | h | h | h <;> rw [h] <;> rfl
theorem gx_top {g : LandT} {L : LdN} (hG : GR g L) (hV : LdV L) {t : Nat} (ht : t < 7) : fX0_topOf (nI t) g = some (nI (topN L t)) := by
  have hC := hV.2.2.2.1 t
  unfold fX0_topOf topN
  rw [if_ob ht (by omega), cl (by omega), hG.2.2.2.2.1 t ht, if_ob hC (by omega), gx_rise hG hV ht, cl (by omega), hG.1 _ hC]
  show some (nI _ + nI _) = _
  rw [nI_add]
theorem mx_iff (h : Nat → Nat) (M : Nat) : ∀ c, (∀ d, d < c → h d < M) ↔ (c = 0 ∨ mxH h c < M)
  | 0 => by simp
  | c + 1 => by
    have ih := mx_iff h M c
    constructor
    · intro hh
      refine Or.inr ?_
      show max (mxH h c) (h c) < M
      have h1 := hh c (by omega)
      rcases ih.mp (fun d hd => hh d (by omega)) with rfl | h2
      · show max 0 (h 0) < M
        omega
      · omega
    · intro hh d hd
      have h3 : max (mxH h c) (h c) < M := by
        rcases hh with hh | hh
        · omega
        · exact hh
      by_cases e : d = c
      · subst e; omega
      · exact ih.mpr (Or.inr (by omega)) d (by omega)
theorem mxH_le {h : Nat → Nat} {M : Nat} (hh : ∀ c, h c ≤ M) : ∀ c, mxH h c ≤ M
  | 0 => Nat.zero_le M
  | c + 1 => by
    have h1 := mxH_le hh c
    have h2 := hh c
    show max (mxH h c) (h c) ≤ M
    omega
theorem clr_or {L : LdN} {b c tp : Nat} : clrB L b c tp = true ↔ (c + 1 ≤ eE L ∧ 0 < tp ∧ ∀ d, d < c → eH L d < max b tp) := by
  unfold clrB
  simp
theorem gx_in {g : LandT} {L : LdN} (hG : GR g L) (hV : LdV L) {c tp b : Nat} (hc : c < 16) (htp : tp < 2 ^ 30) (hb : b < 2 ^ 30) : fX0_isInSight (nI c) (nI tp) (nI b) g = some (if clrB L b c tp = true then 1 else 0) := by
  have hE := hV.2.2.2.2.2.2.2.2.1
  have hmx := mxH_le hV.1 c
  unfold fX0_isInSight
  rw [hG.2.2.2.2.2.2.2.2.2.1, show nI c + 1 = nI (c + 1) from nI_1 c, if_ltn rfl rfl (by omega) (by omega), if_len (k := 0) (v := 0) rfl rfl (by omega) (by omega), if_ob hc (by omega), cl (by omega), hG.2.1 c hc, n_max (by omega) (by omega)]
  have key : (nI (max b tp) ≤ rdg (eH L) c) ↔ ¬ (∀ d, d < c → eH L d < max b tp) := by
    rw [mx_iff]
    unfold rdg
    by_cases h0 : c = 0
    · rw [if_pos h0]
      constructor
      · intro q
        exact absurd q (Int32.not_le.mpr (n_m1 (by omega)))
      · intro q
        exact absurd (Or.inl h0) q
    · rw [if_neg h0, n_le (by omega) (by omega)]
      omega
  by_cases h1 : eE L < c + 1
  · rw [if_pos h1, if_neg (fun q => by have := (clr_or.mp q).1; omega)]
  · rw [if_neg h1]
    by_cases h2 : tp ≤ 0
    · rw [if_pos h2, if_neg (fun q => by have := (clr_or.mp q).2.1; omega)]
    · rw [if_neg h2]
      by_cases h3 : ∀ d, d < c → eH L d < max b tp
      · rw [if_neg (fun q => (key.mp q) h3), if_pos (clr_or.mpr ⟨by omega, by omega, h3⟩)]
      · rw [if_pos (key.mpr h3), if_neg (fun q => h3 (clr_or.mp q).2.2)]
theorem gx_seen {g : LandT} {L : LdN} (hG : GR g L) (hV : LdV L) {t b : Nat} (ht : t < 7) (hb : b < 2 ^ 30) : fX0_isSeen (nI t) (nI b) g = some (if seeB L b t = true then 1 else 0) := by
  have hC := hV.2.2.2.1 t
  have hD := hV.2.2.2.2.2.2.2.1
  have hT := topN_le hV t
  unfold fX0_isSeen fX0_isHidden seeB
  rw [hG.2.2.2.2.2.2.2.2.1]
  by_cases h1 : (eD L).testBit t = true
  · rw [if_pos ((n_bit (by omega) (by omega)).mpr h1), h1]
    rfl
  · rw [if_neg (fun q => h1 ((n_bit (by omega) (by omega)).mp q)), if_ob ht (by omega), gx_top hG hV ht]
    have h2 : (eD L).testBit t = false := by
      cases h : (eD L).testBit t with
      | false => rfl
      | true => exact absurd h h1
    rw [h2]
    show Option.bind (some (0 : Int32)) (fun x1 => if x1 = 0 then Option.bind (some (nI (topN L t))) (fun x2 => Option.bind (fX0_isInSight (gP g (Int32.toNatClampNeg (nI t))) x2 (nI b) g) (fun x3 => if x3 = 0 then some 0 else some 1)) else some 0) = _
    rw [cl (by omega), hG.2.2.2.2.1 t ht]
    show Option.bind (fX0_isInSight (nI (eC L t)) (nI (topN L t)) (nI b) g) (fun x3 => if x3 = 0 then some 0 else some 1) = _
    rw [gx_in hG hV hC (by omega) hb]
    cases h3 : clrB L b (eC L t) (topN L t) <;> rfl
theorem gx_sight {g : LandT} {L : LdN} (hG : GR g L) (hV : LdV L) {b : Nat} (hb : b < 2 ^ 30) : fX0_sightFrom (nI b) g = some (nI (sght L b)) := by
  have hN := hV.2.2.2.2.2.2.1
  unfold fX0_sightFrom
  have hL : lp (bX0_sightFrom_4 (nI b) g) fu (0, 0) = some (nI (sght L b)) := by
    refine lp_fu (fun i => (nI (sgtN L b i), nI i)) (eN L) _ rfl ?_ ?_ (by omega)
    · intro i hi
      dsimp only [bX0_sightFrom_4]
      rw [hG.2.2.2.2.2.2.2.1, if_len rfl rfl (by omega) (by omega), if_neg (by omega), gx_seen hG hV (by omega) hb, n_shl i (by omega), nI_1]
      cases h : seeB L b i with
      | false =>
        show some (Sum.inl (nI (sgtN L b i), nI (i + 1))) = some (Sum.inl (nI (sgtN L b i ||| (if seeB L b i = true then 2 ^ i else 0)), nI (i + 1)))
        rw [h, if_neg (by decide), Nat.or_zero]
      | true =>
        show some (Sum.inl (nI (sgtN L b i) ||| nI (2 ^ i), nI (i + 1))) = some (Sum.inl (nI (sgtN L b i ||| (if seeB L b i = true then 2 ^ i else 0)), nI (i + 1)))
        rw [h, if_pos rfl, n_or]
    · dsimp only [bX0_sightFrom_4]
      rw [hG.2.2.2.2.2.2.2.1, if_len rfl rfl (by omega) (by omega), if_pos (Nat.le_refl _)]
  rw [hL]
  rfl
