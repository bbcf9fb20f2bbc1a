/-! ===== the first misfit, on both sides ===== -/
section TXM
variable {yl xl : Nat → Int32} {l : Nat → Nat} {k : Nat}
theorem dig_at (hl : LL yl xl l k) {i : Nat} (hi : i < k) : fX1_digitAt (nI i) yl (nI k) = some (nI (l i) - 48) := by
  have hk := hl.1
  unfold fX1_digitAt
  rw [if_len rfl rfl (by omega) (by omega), if_neg (by omega), if_ob (show i < 96 by omega) (by omega), cl (by omega), (hl.2 i hi).1]
theorem kind_at (hl : LL yl xl l k) {i : Nat} (hi : i < k) : fX1_kindAt (nI i) yl (nI k) = some (if kN (l i) < 6 then nI (kN (l i)) else -1) := by
  have hk := hl.1
  unfold fX1_kindAt
  rw [if_len rfl rfl (by omega) (by omega), if_neg (by omega), if_ob (show i < 96 by omega) (by omega), cl (by omega), (hl.2 i hi).1, kd_c _ (hl.2 i hi).2.2]
  rfl
theorem fits_a (hl : LL yl xl l k) {p : Nat} (hp : p < k) : fX1_fits (nI p) (nI p) yl (nI k) = some (if shN (l p) = 5 then 0 else 1) := by
  have hk := hl.1
  have hs := sh_lt _ (hl.2 p hp).2.2
  have ey : yl (Int32.toNatClampNeg (nI p)) = nI (l p) := by rw [cl (by omega), (hl.2 p hp).1]
  unfold fX1_fits
  rw [if_ob (show p < 96 by omega) (by omega), ey, sh_c _ (hl.2 p hp).2.2]
  simp only [bsm, if_true]
  rw [if_neg (by omega), em_c _ hs]
  simp only [bsm]
  by_cases h : shN (l p) = 5
  · rw [if_pos h, if_pos h]
    rfl
  · rw [if_neg h, if_neg h]
    rfl
theorem bo_b (c : Bool) : bo (if c = true then 1 else 0) = some (if c = true then 1 else 0) := by
  cases c <;> rfl
theorem fits_b (hl : LL yl xl l k) {p j : Nat} (hj : j < lnN (shN (l p))) (hi : p + 1 + j < k) : fX1_fits (nI p) (nI (p + 1 + j)) yl (nI k) = some (if fitc (chN (shN (l p)) j) (l (p + 1 + j)) = true then 1 else 0) := by
  have hk := hl.1
  have hs := sh_lt _ (hl.2 p (by omega)).2.2
  have hln := ln_le _ hs
  have hc := (hl.2 (p + 1 + j) hi).2.2
  unfold fX1_fits
  rw [if_ob (show p < 96 by omega) (by omega), cl (by omega), (hl.2 p (by omega)).1, sh_c _ (hl.2 p (by omega)).2.2]
  simp only [bsm]
  rw [if_neg (by omega), if_eqn rfl (by omega) (by omega), if_neg (by omega), pk_sub (show p ≤ p + 1 + j by omega), show nI (p + 1 + j - p) - 1 = nI j by rw [show p + 1 + j - p = j + 1 by omega]; exact nI_pred j, if_neg (nI_pos (n := j) (by omega)), ln_c _ hs]
  simp only [bsm]
  rw [if_ltn rfl rfl (by omega) (by omega), if_pos hj, ch_c _ hs j (by omega) hj]
  simp only [bsm]
  rcases ch_v _ hs j (by omega) with h | h | h
  · rw [h, if_pos (show nI 48 = 48 from rfl), dig_at hl hi]
    simp only [bsm]
    rw [dg_c _ hc, fit48]
    simp only [bsm]
    rw [bo_b]
    rfl
  · rw [h, if_neg (show ¬ nI 107 = 48 by decide), if_pos (show nI 107 = 107 from rfl), kind_at hl hi, fit107]
    simp only [bsm]
    by_cases h2 : kN (l (p + 1 + j)) < 6
    · rw [if_pos h2, if_neg (fun q => by
        have h6 := n_m1 (a := kN (l (p + 1 + j))) (by omega)
        rw [q] at h6
        exact absurd h6 (by decide)), if_pos (decide_eq_true h2)]
    · rw [if_neg h2, if_pos rfl, if_neg (by rw [decide_eq_false h2]; decide)]
  · rw [h, if_neg (show ¬ nI 59 = 48 by decide), if_neg (show ¬ nI 59 = 107 by decide), if_ob (show p + 1 + j < 96 by omega) (by omega), cl (by omega), (hl.2 (p + 1 + j) hi).1, fit59, if_eqn rfl (by omega) (by omega)]
    by_cases h2 : l (p + 1 + j) = 59
    · rw [if_pos h2, if_pos (decide_eq_true h2)]
    · rw [if_neg h2, if_neg (by rw [decide_eq_false h2]; decide)]
theorem lp_in {σ ρ : Type} {body : σ → Option (σ ⊕ ρ)} {s s' : σ} (h : body s = some (.inl s')) (f : Nat) : lp body (f + 1) s = lp body f s' := by
  show (body s).bind _ = _
  rw [h]
  rfl
theorem lp_out {σ ρ : Type} {body : σ → Option (σ ⊕ ρ)} {s : σ} {R : ρ} (h : body s = some (.inr R)) (f : Nat) : lp body (f + 1) s = some R := by
  show (body s).bind _ = _
  rw [h]
  rfl
theorem mis_s (hl : LL yl xl l k) {s i : Nat} (hi : i < k) (hf : fX1_fits (nI s) (nI i) yl (nI k) = some 1) : bX1_firstMisfit_4 yl (nI k) (nI s, nI i) = some (.inl (if l i = 59 then nI (i + 1) else nI s, nI (i + 1))) := by
  have hk := hl.1
  have hc := (hl.2 i hi).2.2
  dsimp only [bX1_firstMisfit_4]
  rw [if_len rfl rfl (by omega) (by omega), if_neg (by omega), hf]
  simp only [bsm, i_n1]
  rw [if_ob (show i < 96 by omega) (by omega), cl (by omega), (hl.2 i hi).1, if_eqn (v := 59) (k := 59) rfl (by omega) (by omega), nI_1]
  by_cases h : l i = 59
  · rw [if_pos h, if_pos h]
  · rw [if_neg h, if_neg h]
theorem mis_0 (hl : LL yl xl l k) {s i : Nat} (hi : i < k) (hf : fX1_fits (nI s) (nI i) yl (nI k) = some 0) : bX1_firstMisfit_4 yl (nI k) (nI s, nI i) = some (.inr (.inl (nI i))) := by
  have hk := hl.1
  dsimp only [bX1_firstMisfit_4]
  rw [if_len rfl rfl (by omega) (by omega), if_neg (by omega), hf]
  simp only [bsm, if_true]
theorem mis_e (hl : LL yl xl l k) (s : Nat) : bX1_firstMisfit_4 yl (nI k) (nI s, nI k) = some (.inr (.inr (nI s))) := by
  have hk := hl.1
  dsimp only [bX1_firstMisfit_4]
  rw [if_len rfl rfl (by omega) (by omega), if_pos (Nat.le_refl k)]
theorem first59 {c : Nat} (h : shN c < 5) : ¬ c = 59 := fun q => by
  rw [q, no59s] at h
  omega
theorem mis_w (hl : LL yl xl l k) {p : Nat} (hp : p < k) (hsh : shN (l p) < 5) : ∀ j, j < lnN (shN (l p)) → p + 1 + j ≤ k → (∀ i, i < j → fitc (chN (shN (l p)) i) (l (p + 1 + i)) = true) → ∀ f, lp (bX1_firstMisfit_4 yl (nI k)) (f + (j + 1)) (nI p, nI p) = lp (bX1_firstMisfit_4 yl (nI k)) f (nI p, nI (p + 1 + j))
  | 0, _, _, _, f => by
    have h := mis_s hl (s := p) (i := p) hp (by rw [fits_a hl hp, if_neg (by omega)])
    rw [if_neg (first59 hsh)] at h
    exact lp_in h f
  | j + 1, h1, h2, h3, f => by
    have hs := sh_lt _ (hl.2 p hp).2.2
    have hf := h3 j (by omega)
    have ih := mis_w hl hp hsh j (by omega) (by omega) (fun i hi => h3 i (by omega)) (f + 1)
    have h := mis_s hl (s := p) (i := p + 1 + j) (by omega) (by rw [fits_b hl (by omega) (by omega), if_pos hf])
    rw [if_neg (fun q => by have := (fit_59 hs (by omega) hf).mp q; omega)] at h
    rw [show f + (j + 1 + 1) = f + 1 + (j + 1) by omega, ih]
    exact lp_in h f
theorem mis_V (hl : LL yl xl l k) {p q : Nat} (hV : Vs l k p q) (f : Nat) : lp (bX1_firstMisfit_4 yl (nI k)) (f + (q - p)) (nI p, nI p) = lp (bX1_firstMisfit_4 yl (nI k)) f (nI q, nI q) := by
  obtain ⟨hp, hsh, hq, hqk, hf⟩ := hV
  have hs := sh_lt _ (hl.2 p hp).2.2
  have h2 := ln_2 _ hsh
  obtain ⟨n, hn⟩ : ∃ n, lnN (shN (l p)) = n + 1 := ⟨lnN (shN (l p)) - 1, by omega⟩
  have hw := mis_w hl hp hsh n (by omega) (by omega) (fun i hi => hf i (by omega)) (f + 1)
  have hfn := hf n (by omega)
  have h := mis_s hl (s := p) (i := p + 1 + n) (by omega) (by rw [fits_b hl (by omega) (by omega), if_pos hfn])
  rw [if_pos ((fit_59 hs (by omega) hfn).mpr (by omega))] at h
  rw [show f + (q - p) = f + 1 + (n + 1) by omega, hw, lp_in h f, show p + 1 + n + 1 = q by omega]
theorem mis_F (hl : LL yl xl l k) {p q : Nat} (hp : p < k) (hF : Fs l k p q) (f : Nat) : p ≤ q ∧ q ≤ k ∧ ((q < k ∧ lp (bX1_firstMisfit_4 yl (nI k)) (f + (q - p) + 1) (nI p, nI p) = some (.inl (nI q))) ∨ (q = k ∧ lp (bX1_firstMisfit_4 yl (nI k)) (f + (q - p) + 1) (nI p, nI p) = some (.inr (nI p)))) := by
  rcases hF with ⟨rfl, h | ⟨-, h⟩⟩ | ⟨-, hsh, j, hj, rfl, hqk, hf, hE⟩
  · omega
  · refine ⟨Nat.le_refl _, by omega, Or.inl ⟨hp, ?_⟩⟩
    exact lp_out (mis_0 hl hp (by rw [fits_a hl hp, if_pos h])) _
  · have hw := mis_w hl hp hsh j hj hqk hf (f + 1)
    refine ⟨by omega, hqk, ?_⟩
    rw [show f + (p + 1 + j - p) + 1 = f + 1 + (j + 1) by omega, hw]
    rcases hE with hE | ⟨hE, hE2⟩
    · refine Or.inr ⟨hE, ?_⟩
      rw [hE]
      exact lp_out (mis_e hl p) f
    · refine Or.inl ⟨hE, ?_⟩
      exact lp_out (mis_0 hl hE (by rw [fits_b hl hj hE, hE2]; rfl)) f
/-- n whole statements from p to the end -/
def Chn (l : Nat → Nat) (k : Nat) : Nat → Nat → Prop
  | 0, p => p = k
  | n + 1, p => ∃ q, Vs l k p q ∧ Chn l k n q
theorem no1000 : ∀ q, q ≤ 96 → ¬ (-1000 : Int32) - nI q = -9 := by decide +kernel
theorem pass1 (hl : LL yl xl l k) : ∀ m p t u, k - p ≤ m → p < k → ∃ o t', (∀ f, lp (bX1_firstMisfit_4 yl (nI k)) (f + (k - p) + 1) (nI p, nI p) = some o) ∧ (∀ f, lp (bX4_land_10 xl (nI k)) (f + (k - p) + 1) (nI t, -9, nI p, u) = some t') ∧ ((∃ n u', Chn l k n p ∧ o = .inr (nI k) ∧ t' = (nI (t + n), -9, nI k, u')) ∨ (∃ q u' t2 p2, q ≤ k ∧ ((q < k ∧ o = .inl (nI q)) ∨ (q = k ∧ ∃ s, s < k ∧ o = .inr (nI s))) ∧ t' = (t2, -1000 - nI q, p2, u')))
  | 0, p, t, u, h1, h2 => by omega
  | m + 1, p, t, u, h1, hp => by
    have hk := hl.1
    obtain ⟨x, q, u', e, h⟩ := rd_stmt hl (p := p) (by omega) u
    rcases h with ⟨rfl, hV, hU⟩ | ⟨rfl, hF⟩
    · have hV2 := hV
      obtain ⟨-, hsh, hq, hqk, -⟩ := hV2
      have hln := ln_2 _ hsh
      have hb : bX4_land_10 xl (nI k) (nI t, -9, nI p, u) = if q < k then some (.inl (nI (t + 1), -9, nI q, u')) else some (.inr (nI (t + 1), -9, nI q, u')) := by
        dsimp only [bX4_land_10]
        rw [e]
        simp only [bsm, i_n1, if_true]
        rw [if_ltn rfl rfl (by omega) (by omega), nI_1]
      by_cases hqk2 : q < k
      · rw [if_pos hqk2] at hb
        obtain ⟨o, t', a1, a2, a3⟩ := pass1 hl m q (t + 1) u' (by omega) hqk2
        refine ⟨o, t', fun f => ?_, fun f => ?_, ?_⟩
        · rw [show f + (k - p) + 1 = f + (k - q) + 1 + (q - p) by omega, mis_V hl hV]
          exact a1 f
        · rw [lp_in hb, show f + (k - p) = (f + (q - p) - 1) + (k - q) + 1 by omega]
          exact a2 _
        · rcases a3 with ⟨n, u2, b1, b2, b3⟩ | b
          · refine Or.inl ⟨n + 1, u2, ⟨q, hV, b1⟩, b2, ?_⟩
            rw [b3, show t + 1 + n = t + (n + 1) by omega]
          · exact Or.inr b
      · rw [if_neg hqk2] at hb
        have hqe : q = k := by omega
        subst hqe
        refine ⟨.inr (nI q), _, fun f => ?_, fun f => lp_out hb _, Or.inl ⟨1, u', ⟨q, hV, rfl⟩, rfl, rfl⟩⟩
        rw [show f + (q - p) + 1 = f + 1 + (q - p) by omega, mis_V hl hV]
        exact lp_out (mis_e hl q) f
    · have hb : bX4_land_10 xl (nI k) (nI t, -9, nI p, u) = some (.inr (nI (t + 1), -1000 - nI q, nI q, u')) := by
        have hq := (mis_F hl hp hF 0).2.1
        dsimp only [bX4_land_10]
        rw [e]
        simp only [bsm, if_true]
        rw [if_neg (no1000 q (by omega)), nI_1]
      obtain ⟨c1, c2, c3⟩ := mis_F hl hp hF 0
      by_cases hqk : q < k
      · refine ⟨.inl (nI q), _, fun f => ?_, fun f => lp_out hb _, Or.inr ⟨q, u', _, _, c2, Or.inl ⟨hqk, rfl⟩, rfl⟩⟩
        have z := (mis_F hl hp hF (f + (k - q))).2.2
        rcases z with ⟨-, z⟩ | ⟨z, -⟩
        · rw [show f + (k - p) + 1 = f + (k - q) + (q - p) + 1 by omega]
          exact z
        · omega
      · refine ⟨.inr (nI p), _, fun f => ?_, fun f => lp_out hb _, Or.inr ⟨q, u', _, _, c2, Or.inr ⟨by omega, p, hp, rfl⟩, rfl⟩⟩
        have z := (mis_F hl hp hF (f + (k - q))).2.2
        rcases z with ⟨z, -⟩ | ⟨-, z⟩
        · omega
        · rw [show f + (k - p) + 1 = f + (k - q) + (q - p) + 1 by omega]
          exact z
def c59 (l : Nat → Nat) : Nat → Nat
  | 0 => 0
  | i + 1 => c59 l i + (if l i = 59 then 1 else 0)
theorem c59_V (hl : LL yl xl l k) {p q : Nat} (hV : Vs l k p q) : c59 l q = c59 l p + 1 := by
  obtain ⟨hp, hsh, hq, hqk, hf⟩ := hV
  have hs := sh_lt _ (hl.2 p hp).2.2
  have h2 := ln_2 _ hsh
  have hw : ∀ j, j < lnN (shN (l p)) → c59 l (p + 1 + j) = c59 l p := by
    intro j
    induction j with
    | zero =>
      intro _
      show c59 l p + (if l p = 59 then 1 else 0) = c59 l p
      rw [if_neg (first59 hsh)]
      rfl
    | succ j ih =>
      intro hj
      show c59 l (p + 1 + j) + (if l (p + 1 + j) = 59 then 1 else 0) = c59 l p
      rw [ih (by omega), if_neg (fun q => by have := (fit_59 hs (by omega) (hf j (by omega))).mp q; omega)]
      rfl
  obtain ⟨n, hn⟩ : ∃ n, lnN (shN (l p)) = n + 1 := ⟨lnN (shN (l p)) - 1, by omega⟩
  rw [hq, hn]
  show c59 l (p + 1 + n) + (if l (p + 1 + n) = 59 then 1 else 0) = c59 l p + 1
  rw [hw n (by omega), if_pos ((fit_59 hs (by omega) (hf n (by omega))).mpr (by omega))]
theorem c59_C (hl : LL yl xl l k) : ∀ n p, Chn l k n p → c59 l k = c59 l p + n
  | 0, p, h => by
    have : p = k := h
    rw [this]
    rfl
  | n + 1, p, ⟨q, hV, hC⟩ => by
    rw [c59_C hl n q hC, c59_V hl hV]
    omega
theorem gx_stm (hl : LL yl xl l k) : fX1_statements yl (nI k) = some (nI (c59 l k)) := by
  have hk := hl.1
  unfold fX1_statements
  have hL : lp (bX1_statements_4 yl (nI k)) fu (0, 0) = some (nI (c59 l k)) := by
    refine lp_fu (fun i => (nI (c59 l i), nI i)) k _ rfl ?_ ?_ (by omega)
    · intro i hi
      have hc := (hl.2 i hi).2.2
      dsimp only [bX1_statements_4]
      rw [if_len rfl rfl (by omega) (by omega), if_neg (by omega), if_ob (show i < 96 by omega) (by omega), cl (by omega), (hl.2 i hi).1, if_eqn (v := 59) (k := 59) rfl (by omega) (by omega), nI_1]
      show _ = some (Sum.inl (nI (c59 l i + (if l i = 59 then 1 else 0)), nI (i + 1)))
      by_cases h : l i = 59
      · rw [if_pos h, if_pos h, bsm, nI_1]
      · rw [if_neg h, if_neg h, bsm, show nI (c59 l i) + 0 = nI (c59 l i + 0) from nI_add _ 0]
    · dsimp only [bX1_statements_4]
      rw [if_len rfl rfl (by omega) (by omega), if_pos (Nat.le_refl k)]
  rw [hL]
  rfl
end TXM
