/-! ===== deciders, verdicts, branches on both sides ===== -/
theorem decN_s (L : LdN) (S k : Nat) : decN L S (k + 1) = if S.testBit k = true ∧ ¬ eV L (eK L k) = 0 then (match decN L S k with
      | none => some k
      | some d => if eQ L (eK L d) < eQ L (eK L k) then some k else some d) else decN L S k := rfl
theorem n4 (a : Nat) : (4 : Int32) + nI a = nI (4 + a) := nI_add 4 a
theorem n20 (a : Nat) : (20 : Int32) + nI a = nI (20 + a) := nI_add 20 a
theorem n26 (a : Nat) : (26 : Int32) + nI a = nI (26 + a) := nI_add 26 a
theorem of_g (t w : Nat) : fX4_of (nI t) (nI w) = some (nI (32 + 3 * t + w)) := by
  show some ((nI 32 + nI 3 * nI t) + nI w) = _
  rw [pk_mul, nI_add, nI_add]
theorem of_0 (t : Nat) : fX4_of (nI t) 0 = some (nI (32 + 3 * t)) := of_g t 0
theorem of_1 (t : Nat) : fX4_of (nI t) 1 = some (nI (33 + 3 * t)) := by
  have h := of_g t 1
  rw [show 32 + 3 * t + 1 = 33 + 3 * t by omega] at h
  exact h
theorem of_2 (t : Nat) : fX4_of (nI t) 2 = some (nI (34 + 3 * t)) := by
  have h := of_g t 2
  rw [show 32 + 3 * t + 2 = 34 + 3 * t by omega] at h
  exact h
theorem has_eq {S t : Nat} (hS : S < 2 ^ 31) (ht : t < 16) : fX4_has (nI S) (nI t) = some (if S.testBit t = true then 1 else 0) := by
  unfold fX4_has
  by_cases h : S.testBit t = true
  · rw [if_pos ((n_bit hS ht).mpr h), if_pos h]
  · rw [if_neg (fun q => h ((n_bit hS ht).mp q)), if_neg h]
theorem rx_top {r : Nat → Int32} {L : LdN} (hR : RR r L) (hV : LdV L) {t : Nat} (ht : t < 7) : fX4_top (nI t) r = some (nI (topN L t)) := by
  obtain ⟨-, rT, -, -, rH, -, -, rK, rF, rC⟩ := hR
  have hC := hV.2.2.2.1 t
  have hK := hV.2.1 t
  have hF := hV.2.2.1 t
  have hT := hV.2.2.2.2.2.2.2.2.2
  unfold fX4_top topN
  rw [of_2, of_0, of_1]
  simp (disch := omega) only [Option.bind_some, if_ob, cl, cl_1, rC, rK, rF, rT, n4, rH, up_eq, nI_add]
theorem rx_clear {r : Nat → Int32} {L : LdN} (hR : RR r L) (hV : LdV L) {b c tp : Nat} (hc : c < 16) (htp : tp < 2 ^ 30) (hb : b < 2 ^ 30) : fX4_isClear (nI b) (nI c) (nI tp) r = some (if clrB L b c tp = true then 1 else 0) := by
  obtain ⟨-, -, rE, -, rH, -⟩ := hR
  have hE := hV.2.2.2.2.2.2.2.2.1
  unfold fX4_isClear
  rw [cl_2, rE, nI_1, if_ltn rfl rfl (by omega) (by omega), if_ltn (u := 0) (a := 0) rfl rfl (by omega) (by omega)]
  by_cases h1 : eE L < c + 1
  · rw [if_pos h1, if_neg (fun q => by have := (clr_or.mp q).1; omega)]
  · rw [if_neg h1]
    by_cases h2 : 0 < tp
    · rw [if_pos h2]
      have body : ∀ i, i < c → bX4_isClear_18 (nI b) (nI c) (nI tp) r (nI i) = some (if eH L i < max b tp then .inl (nI (i + 1)) else .inr (.inl 0)) := by
        intro i hi
        have hh := hV.1 i
        dsimp only [bX4_isClear_18]
        rw [if_len rfl rfl (by omega) (by omega), if_neg (by omega), n4]
        simp only [if_ob (show 4 + i < 53 by omega) (show 53 < 2 ^ 31 by omega), cl (show 4 + i < 2 ^ 31 by omega), rH i (by omega)]
        rw [if_ltn rfl rfl (by omega) (by omega), if_ltn rfl rfl (by omega) (by omega), nI_1]
        by_cases q1 : eH L i < b
        · rw [if_pos q1, if_pos (by omega)]
        · rw [if_neg q1]
          by_cases q2 : eH L i < tp
          · rw [if_pos q2, if_pos (by omega)]
          · rw [if_neg q2, if_neg (by omega)]
      by_cases h3 : ∀ d, d < c → eH L d < max b tp
      · have hL : lp (bX4_isClear_18 (nI b) (nI c) (nI tp) r) fu 0 = some (.inr ()) := by
          refine lp_fu (fun i => nI i) c _ rfl ?_ ?_ (by omega)
          · intro i hi
            show bX4_isClear_18 (nI b) (nI c) (nI tp) r (nI i) = _
            rw [body i hi, if_pos (h3 i hi)]
          · dsimp only [bX4_isClear_18]
            rw [if_len rfl rfl (by omega) (by omega), if_pos (Nat.le_refl c)]
        rw [hL, if_pos (clr_or.mpr ⟨by omega, h2, h3⟩)]
        rfl
      · obtain ⟨d, ⟨hd, hdm⟩, hmin⟩ := pk_least (fun d => d < c ∧ ¬ eH L d < max b tp) (by
          apply Classical.byContradiction
          intro hno
          apply h3
          intro d hd
          apply Classical.byContradiction
          intro q
          exact hno ⟨d, hd, q⟩)
        have hL : lp (bX4_isClear_18 (nI b) (nI c) (nI tp) r) fu 0 = some (.inl 0) := by
          refine lp_fu (fun i => nI i) d _ rfl ?_ ?_ (by omega)
          · intro i hi
            show bX4_isClear_18 (nI b) (nI c) (nI tp) r (nI i) = _
            rw [body i (by omega), if_pos (by
              apply Classical.byContradiction
              intro q
              exact hmin i hi ⟨by omega, q⟩)]
          · show bX4_isClear_18 (nI b) (nI c) (nI tp) r (nI d) = _
            rw [body d hd, if_neg hdm]
        rw [hL, if_neg (fun q => h3 (clr_or.mp q).2.2)]
        rfl
    · rw [if_neg h2, if_neg (fun q => h2 (clr_or.mp q).2.1)]
theorem rx_sight {r : Nat → Int32} {L : LdN} (hR : RR r L) (hV : LdV L) {b : Nat} (hb : b < 2 ^ 30) : fX4_seenIn (nI b) r = some (nI (sght L b)) := by
  have hN := hV.2.2.2.2.2.2.1
  have hD := hV.2.2.2.2.2.2.2.1
  have hR0 := hR
  obtain ⟨rN, -, -, rD, -, -, -, -, -, rC⟩ := hR
  unfold fX4_seenIn
  have hL : lp (bX4_seenIn_4 (nI b) r) fu (0, 0) = some (nI (sght L b)) := by
    refine lp_fu (fun i => (nI (sgtN L b i), nI i)) (eN L) _ rfl ?_ ?_ (by omega)
    · intro i hi
      have hT := topN_le hV i
      dsimp only [bX4_seenIn_4]
      rw [cl_0, rN, if_len rfl rfl (by omega) (by omega), if_neg (by omega), cl_3, rD, has_eq (by omega) (by omega), n_shl i (by omega), of_2, rx_top hR0 hV (by omega), nI_1]
      simp only [Option.bind_some]
      rw [if_ob (by omega) (by omega), cl (by omega), rC i (by omega), rx_clear hR0 hV (hV.2.2.2.1 i) (by omega) hb]
      show _ = some (Sum.inl (nI (sgtN L b i ||| (if seeB L b i = true then 2 ^ i else 0)), nI (i + 1)))
      unfold seeB
      cases h1 : (eD L).testBit i <;> cases h2 : clrB L b (eC L i) (topN L i)
      · show some (Sum.inl (nI (sgtN L b i) ||| nI 0, nI (i + 1))) = some (Sum.inl (nI (sgtN L b i ||| 0), nI (i + 1)))
        rw [n_or]
      · show some (Sum.inl (nI (sgtN L b i) ||| nI (2 ^ i), nI (i + 1))) = some (Sum.inl (nI (sgtN L b i ||| 2 ^ i), nI (i + 1)))
        rw [n_or]
      · show some (Sum.inl (nI (sgtN L b i) ||| nI 0, nI (i + 1))) = some (Sum.inl (nI (sgtN L b i ||| 0), nI (i + 1)))
        rw [n_or]
      · show some (Sum.inl (nI (sgtN L b i) ||| nI 0, nI (i + 1))) = some (Sum.inl (nI (sgtN L b i ||| 0), nI (i + 1)))
        rw [n_or]
    · dsimp only [bX4_seenIn_4]
      rw [cl_0, rN, if_len rfl rfl (by omega) (by omega), if_pos (Nat.le_refl _)]
  rw [hL]
  rfl
theorem oN_some (d : Nat) : oN (some d) = nI d := by
  have h : ∀ o, o = some d → oN o = nI d := by
    intro o ho
    subst ho
    rfl
  exact h _ rfl
theorem oN_none : oN none = -9 := by
  have h : ∀ o, o = none → oN o = -9 := by
    intro o ho
    subst ho
    rfl
  exact h _ rfl
theorem oN_neg {o : Option Nat} (h : o = none) : oN o < 0 := by
  subst h
  decide
theorem rx_dec {r : Nat → Int32} {L : LdN} (hR : RR r L) (hV : LdV L) {b : Nat} (hb : b < 2 ^ 30) : fX4_decides (nI b) r = some (oN (decN L (sght L b) (eN L))) := by
  have hN := hV.2.2.2.2.2.2.1
  have hS := sght_lt hV b
  have hR0 := hR
  obtain ⟨rN, -, -, -, -, rV, rQ, rK, -, -⟩ := hR
  unfold fX4_decides
  rw [rx_sight hR0 hV hb]
  simp only [Option.bind_some]
  have hL : lp (bX4_decides_12 r (nI (sght L b))) fu ((-9), 0) = some (oN (decN L (sght L b) (eN L))) := by
    generalize sght L b = S at hS
    refine lp_fu (fun i => (oN (decN L S i), nI i)) (eN L) _ rfl ?_ ?_ (by omega)
    · intro i hi
      have hK := hV.2.1 i
      have hQ := hV.2.2.2.2.2.1 (eK L i)
      have hVv := hV.2.2.2.2.1 (eK L i)
      dsimp only [bX4_decides_12]
      rw [cl_0, rN, if_len rfl rfl (by omega) (by omega), if_neg (by omega), of_0, has_eq (by omega) (by omega), nI_1]
      simp only [Option.bind_some]
      rw [if_ob (by omega) (by omega), cl (by omega), rK i (by omega), n20, n26, if_ob (by omega) (by omega), if_ob (by omega) (by omega), cl (by omega), rV _ hK, cl (by omega), rQ _ hK, if_eqn (v := 0) (k := 0) rfl (by omega) (by omega)]
      show _ = some (Sum.inl (oN (decN L S (i + 1)), nI (i + 1)))
      rw [decN_s]
      by_cases h1 : S.testBit i = true
      · rw [if_pos h1, if_neg (by decide)]
        by_cases h2 : eV L (eK L i) = 0
        · rw [if_pos h2, if_neg (show ¬ (S.testBit i = true ∧ ¬ eV L (eK L i) = 0) from fun q => q.2 h2)]
        · rw [if_neg h2, if_pos (show S.testBit i = true ∧ ¬ eV L (eK L i) = 0 from ⟨h1, h2⟩)]
          cases hd : decN L S i with
          | none =>
            rw [if_pos (show oN none < 0 by decide)]
            rfl
          | some d =>
            have hdl := decN_lt hd
            have hK2 := hV.2.1 d
            have hQ2 := hV.2.2.2.2.2.1 (eK L d)
            rw [if_neg (show ¬ oN (some d) < 0 from nI_pos (by omega)), show fX4_of (oN (some d)) 0 = some (nI (32 + 3 * d)) from of_0 d]
            simp only [Option.bind_some]
            rw [if_ob (by omega) (by omega), cl (by omega), rK d (by omega), n26, if_ob (by omega) (by omega), cl (by omega), rQ _ hK2, if_len rfl rfl (by omega) (by omega)]
            by_cases h3 : eQ L (eK L i) ≤ eQ L (eK L d)
            · rw [if_pos h3, if_neg (show ¬ eQ L (eK L d) < eQ L (eK L i) by omega)]
            · rw [if_neg h3, if_pos (show eQ L (eK L d) < eQ L (eK L i) by omega)]
              rfl
      · rw [if_neg h1, if_pos rfl, if_neg (show ¬ (S.testBit i = true ∧ ¬ eV L (eK L i) = 0) from fun q => h1 q.1)]
    · dsimp only [bX4_decides_12]
      rw [cl_0, rN, if_len rfl rfl (by omega) (by omega), if_pos (Nat.le_refl _)]
  rw [hL]
  rfl
theorem rx_verd {r : Nat → Int32} {L : LdN} (hR : RR r L) (hV : LdV L) {b : Nat} (hb : b < 2 ^ 30) : fX4_verdictIn (nI b) r = some (nI (vrd L b)) := by
  have hN := hV.2.2.2.2.2.2.1
  unfold fX4_verdictIn
  rw [rx_dec hR hV hb]
  simp only [Option.bind_some]
  show _ = some (nI (verO L (decN L (sght L b) (eN L))))
  cases hd : decN L (sght L b) (eN L) with
  | none =>
    rw [if_neg (show ¬ (0 : Int32) ≤ oN none by decide)]
    rfl
  | some d =>
    have hdl := decN_lt hd
    have hK := hV.2.1 d
    rw [if_pos (show (0 : Int32) ≤ oN (some d) from nI_pos' (by omega)), show fX4_of (oN (some d)) 0 = some (nI (32 + 3 * d)) from of_0 d]
    simp only [Option.bind_some]
    rw [if_ob (by omega) (by omega), cl (by omega), hR.2.2.2.2.2.2.2.1 d (by omega), n20, if_ob (by omega) (by omega), cl (by omega), hR.2.2.2.2.2.1 _ hK]
    rfl
/-- the rank that the class has in hand -/
def grt (L : LdN) : Option Nat → Int32
  | none => -1
  | some d => nI (eQ L (eK L d))
theorem grt_some (L : LdN) (d : Nat) : grt L (some d) = nI (eQ L (eK L d)) := rfl
theorem gx_dec {g : LandT} {L : LdN} (hG : GR g L) (hV : LdV L) {S : Nat} (hS : S < 2 ^ 30) : fX0_deciderIn (nI S) g = some (oN (decN L S (eN L))) := by
  have hN := hV.2.2.2.2.2.2.1
  obtain ⟨-, -, gk, -, -, gv, gq, gn, -⟩ := hG
  unfold fX0_deciderIn
  have hL : lp (bX0_deciderIn_8 (nI S) g) fu ((-9), (-1), 0) = some (oN (decN L S (eN L))) := by
    refine lp_fu (fun i => (oN (decN L S i), grt L (decN L S i), nI i)) (eN L) _ rfl ?_ ?_ (by omega)
    · intro i hi
      have hK := hV.2.1 i
      have hQ := hV.2.2.2.2.2.1 (eK L i)
      have hVv := hV.2.2.2.2.1 (eK L i)
      dsimp only [bX0_deciderIn_8]
      rw [gn, if_len rfl rfl (by omega) (by omega), if_neg (by omega), nI_1]
      simp only [if_ob (show i < 7 by omega) (show 7 < 2 ^ 31 by omega)]
      rw [cl (by omega), gk i (by omega)]
      simp only [if_ob hK (show 6 < 2 ^ 31 by omega)]
      rw [cl (by omega), gv _ hK, gq _ hK, if_eqn (v := 0) (k := 0) rfl (by omega) (by omega)]
      show _ = some (Sum.inl (oN (decN L S (i + 1)), grt L (decN L S (i + 1)), nI (i + 1)))
      rw [decN_s]
      by_cases h1 : S.testBit i = true
      · rw [if_pos ((n_bit (by omega) (by omega)).mpr h1)]
        by_cases h2 : eV L (eK L i) = 0
        · rw [if_pos h2, if_neg (show ¬ (S.testBit i = true ∧ ¬ eV L (eK L i) = 0) from fun q => q.2 h2)]
          rfl
        · rw [if_neg h2, if_pos (show S.testBit i = true ∧ ¬ eV L (eK L i) = 0 from ⟨h1, h2⟩)]
          simp only [Option.bind_some]
          rw [if_neg (show ¬ (1 : Int32) = 0 by decide)]
          cases hd : decN L S i with
          | none =>
            rw [if_neg (show ¬ nI (eQ L (eK L i)) ≤ grt L none from Int32.not_le.mpr (n_m1 (by omega)))]
            rfl
          | some d =>
            have hQ2 := hV.2.2.2.2.2.1 (eK L d)
            rw [if_len rfl (show grt L (some d) = nI (eQ L (eK L d)) from rfl) (by omega) (by omega)]
            by_cases h3 : eQ L (eK L i) ≤ eQ L (eK L d)
            · rw [if_pos h3]
              simp only [if_neg (show ¬ eQ L (eK L d) < eQ L (eK L i) by omega)]
            · rw [if_neg h3]
              simp only [if_pos (show eQ L (eK L d) < eQ L (eK L i) by omega)]
              rfl
      · rw [if_neg (fun q => h1 ((n_bit (by omega) (by omega)).mp q)), if_neg (show ¬ (S.testBit i = true ∧ ¬ eV L (eK L i) = 0) from fun q => h1 q.1)]
        rfl
    · dsimp only [bX0_deciderIn_8]
      rw [gn, if_len rfl rfl (by omega) (by omega), if_pos (Nat.le_refl _)]
  rw [hL]
  rfl
theorem isW_no9 (x : Int32) : fX3_isWithin (-9) 0 x = some 0 := by
  unfold fX3_isWithin
  rw [if_pos (by decide)]
theorem gx_has {g : LandT} {L : LdN} (hG : GR g L) {t : Nat} (ht : t < eN L) (hN : eN L ≤ 7) : fX0_hasThing (nI t) g = some 1 := by
  unfold fX0_hasThing
  rw [hG.2.2.2.2.2.2.2.1, isW_eq, show nI (eN L) - 1 = nI (eN L - 1) from pk_sub (b := 1) (by omega), show (0 : Int32) = nI 0 from rfl, isIn_t (k := t) rfl (by omega) (by omega) (by omega)]
  rfl
theorem gx_verd {g : LandT} {L : LdN} (hG : GR g L) (hV : LdV L) {S : Nat} (hS : S < 2 ^ 30) : fX0_verdictIn (nI S) g = some (nI (verN L S)) := by
  have hN := hV.2.2.2.2.2.2.1
  unfold fX0_verdictIn
  rw [gx_dec hG hV hS]
  simp only [Option.bind_some]
  show _ = some (nI (verO L (decN L S (eN L))))
  cases hd : decN L S (eN L) with
  | none =>
    simp only [oN_some, oN_none]
    unfold fX0_hasThing
    rw [isW_no9]
    rfl
  | some d =>
    have hdl := decN_lt hd
    have hK := hV.2.1 d
    simp only [oN_some, oN_none]
    rw [gx_has hG hdl hN]
    simp only [Option.bind_some]
    rw [if_neg (by decide), if_ob (by omega) (by omega), cl (by omega), hG.2.2.1 d (by omega), if_ob hK (by omega), cl (by omega), hG.2.2.2.2.2.1 _ hK]
    rfl
theorem gx_vfrom {g : LandT} {L : LdN} (hG : GR g L) (hV : LdV L) {b : Nat} (hb : b < 2 ^ 30) : fX0_verdictFrom (nI b) g = some (nI (vrd L b)) := by
  have hS := sght_lt hV b
  unfold fX0_verdictFrom
  rw [gx_sight hG hV hb]
  simp only [Option.bind_some]
  rw [gx_verd hG hV (by omega)]
  rfl
theorem gx_brs {g : LandT} {L : LdN} (hG : GR g L) (hV : LdV L) {v : Nat} (hv : v < 2 ^ 30) : fX0_branchesWith (nI v) g = some (nI (brs L v)) := by
  unfold fX0_branchesWith
  have hL : lp (bX0_branchesWith_4 (nI v) g) fu (0, 0) = some (nI (brs L v)) := by
    refine lp_fu (fun i => (nI (brsN L v i), nI i)) 10 _ rfl ?_ ?_ (by omega)
    · intro i hi
      have hS := sght_lt hV i
      have hv2 : verN L (sght L i) ≤ 2 := vrd_le hV (sght L i)
      dsimp only [bX0_branchesWith_4]
      rw [if_len (u := 10) (a := 10) rfl rfl (by omega) (by omega), if_neg (by omega), gx_sight hG hV (by omega), n_shl i (by omega), nI_1]
      simp only [Option.bind_some]
      rw [gx_verd hG hV (by omega)]
      simp only [Option.bind_some]
      rw [if_eqn rfl (by omega) (by omega)]
      show _ = some (Sum.inl (nI (brsN L v i ||| (if vrd L i = v then 2 ^ i else 0)), nI (i + 1)))
      by_cases h : vrd L i = v
      · rw [if_pos h, if_pos h, n_or]
      · rw [if_neg h, if_neg h, Nat.or_zero]
    · rfl
  rw [hL]
  rfl
theorem rx_brs {r : Nat → Int32} {L : LdN} (hR : RR r L) (hV : LdV L) {v : Nat} (hv : v < 2 ^ 30) : fX4_branchesIn (nI v) r = some (nI (brs L v)) := by
  unfold fX4_branchesIn
  have hL : lp (bX4_branchesIn_4 (nI v) r) fu (0, 0) = some (nI (brs L v)) := by
    refine lp_fu (fun i => (nI (brsN L v i), nI i)) 10 _ rfl ?_ ?_ (by omega)
    · intro i hi
      have hv2 : vrd L i ≤ 2 := vrd_le hV (sght L i)
      dsimp only [bX4_branchesIn_4]
      rw [if_len (u := 10) (a := 10) rfl rfl (by omega) (by omega), if_neg (by omega), rx_verd hR hV (by omega), n_shl i (by omega), nI_1]
      simp only [Option.bind_some]
      rw [if_eqn rfl (by omega) (by omega)]
      show _ = some (Sum.inl (nI (brsN L v i ||| (if vrd L i = v then 2 ^ i else 0)), nI (i + 1)))
      by_cases h : vrd L i = v
      · rw [if_pos h, if_pos h, ← n_or]
        rfl
      · rw [if_neg h, if_neg h, ← n_or]
        rfl
    · rfl
  rw [hL]
  rfl
