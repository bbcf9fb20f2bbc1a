/-! ===== both tell alike; a whole telling; the land ===== -/
theorem sh_cases {c : Nat} (h : shN c < 5) : c = 99 ∨ c = 100 ∨ c = 101 ∨ c = 104 ∨ c = 116 ∨ c = 118 ∨ c = 120 := by
  by_cases a1 : c = 99
  · exact Or.inl a1
  by_cases a2 : c = 100
  · exact Or.inr (Or.inl a2)
  by_cases a3 : c = 101
  · exact Or.inr (Or.inr (Or.inl a3))
  by_cases a4 : c = 104
  · exact Or.inr (Or.inr (Or.inr (Or.inl a4)))
  by_cases a5 : c = 116
  · exact Or.inr (Or.inr (Or.inr (Or.inr (Or.inl a5))))
  by_cases a6 : c = 118
  · exact Or.inr (Or.inr (Or.inr (Or.inr (Or.inr (Or.inl a6)))))
  by_cases a7 : c = 120
  · exact Or.inr (Or.inr (Or.inr (Or.inr (Or.inr (Or.inr a7)))))
  exfalso
  unfold shN at h
  rw [if_neg (by omega), if_neg (by omega), if_neg (by omega), if_neg (by omega), if_neg (by omega)] at h
  omega
theorem td_w {A : Option (Int32 × LandT)} {B : Option (Int32 × (Nat → Int32))} (h : TD A B) : TD (Option.bind A fun x => (bo x.1).bind fun z => some (z, x.2)) B := by
  obtain ⟨x, g', y, r', e1, e2, h⟩ := h
  refine ⟨x, g', y, r', ?_, e2, h⟩
  rw [e1, bsm]
  rcases h with ⟨rfl, -⟩ | ⟨rfl, -⟩
  · rfl
  · rfl
section TXL
variable {yl xl : Nat → Int32} {l : Nat → Nat} {k p q : Nat} {g : LandT} {r u : Nat → Int32} {L : LdN}
theorem tell_done (hl : LL yl xl l k) (hV : Vs l k p q) (hU : valU l p u) (hG : GR g L) (hR : RR r L) (hS : LdS L) : TD (fX1_tell (nI p) yl (nI k) g) (fX4_isDone (nI (l p)) r u) := by
  have hk := hl.1
  have hV2 := hV
  obtain ⟨hp, hsh, hq, hqk, hf⟩ := hV2
  have ey : yl (Int32.toNatClampNeg (nI p)) = nI (l p) := by rw [cl (by omega), (hl.2 p hp).1]
  have e1 : nI p + 1 = nI (p + 1) := nI_1 p
  have e2 : nI p + 2 = nI (p + 2) := nI_add p 2
  have e3 : nI p + 3 = nI (p + 3) := nI_add p 3
  unfold fX1_tell
  rw [if_ob (show p < 96 by omega) (by omega), ey, e1, e2, e3]
  rcases sh_cases hsh with ca | ca | ca | ca | ca | ca | ca
  · have hs : shN (l p) = 0 := by rw [ca]; rfl
    have hln : lnN (shN (l p)) = 4 := by rw [hs]; rfl
    have d0 : dgB (l (p + 1)) = true := dgv hV (j := 0) (by omega) (by rw [hs]; rfl)
    have d1 : dgB (l (p + 2)) = true := dgv hV (j := 1) (by omega) (by rw [hs]; rfl)
    have d2 : dgB (l (p + 3)) = true := dgv hV (j := 2) (by omega) (by rw [hs]; rfl)
    have hd := td_c hG hR hS (nb2 d0 d1) (nb1 d2) (hU.1 ca).1 (hU.1 ca).2
    rw [ca]
    rw [if_pos (show nI 99 = 99 from rfl), dig2 hl (i := p + 1) (by omega) d0 d1, dig1 hl (i := p + 3) (by omega) d2]
    simp only [bsm]
    exact td_w hd
  · have hs : shN (l p) = 0 := by rw [ca]; rfl
    have hln : lnN (shN (l p)) = 4 := by rw [hs]; rfl
    have d0 : dgB (l (p + 1)) = true := dgv hV (j := 0) (by omega) (by rw [hs]; rfl)
    have d1 : dgB (l (p + 2)) = true := dgv hV (j := 1) (by omega) (by rw [hs]; rfl)
    have d2 : dgB (l (p + 3)) = true := dgv hV (j := 2) (by omega) (by rw [hs]; rfl)
    have hd := td_d hG hR hS (Nat.le_trans (nb1 d0) (by omega)) (nb2 d1 d2) (hU.2.1 ca).1 (hU.2.1 ca).2
    rw [ca]
    rw [if_neg (show ¬ nI 100 = 99 by decide)]
    rw [if_pos (show nI 100 = 100 from rfl), dig1 hl (i := p + 1) (by omega) d0, dig2 hl (i := p + 2) (by omega) d1 d2]
    simp only [bsm]
    exact td_w hd
  · have hs : shN (l p) = 3 := by rw [ca]; rfl
    have hln : lnN (shN (l p)) = 3 := by rw [hs]; rfl
    have d0 : dgB (l (p + 1)) = true := dgv hV (j := 0) (by omega) (by rw [hs]; rfl)
    have d1 : dgB (l (p + 2)) = true := dgv hV (j := 1) (by omega) (by rw [hs]; rfl)
    have hd := td_e hG hR hS (nb2 d0 d1) (hU.2.2.1 ca)
    rw [ca]
    rw [if_neg (show ¬ nI 101 = 99 by decide)]
    rw [if_neg (show ¬ nI 101 = 100 by decide)]
    rw [if_pos (show nI 101 = 101 from rfl), dig2 hl (i := p + 1) (by omega) d0 d1]
    simp only [bsm]
    exact td_w hd
  · have hs : shN (l p) = 3 := by rw [ca]; rfl
    have hln : lnN (shN (l p)) = 3 := by rw [hs]; rfl
    have d0 : dgB (l (p + 1)) = true := dgv hV (j := 0) (by omega) (by rw [hs]; rfl)
    have d1 : dgB (l (p + 2)) = true := dgv hV (j := 1) (by omega) (by rw [hs]; rfl)
    have hd := td_h hG hR hS (nb2 d0 d1) (hU.2.2.2.1 ca)
    rw [ca]
    rw [if_neg (show ¬ nI 104 = 99 by decide)]
    rw [if_neg (show ¬ nI 104 = 100 by decide)]
    rw [if_neg (show ¬ nI 104 = 101 by decide)]
    rw [if_pos (show nI 104 = 104 from rfl), dig2 hl (i := p + 1) (by omega) d0 d1]
    simp only [bsm]
    exact td_w hd
  · have hs : shN (l p) = 1 := by rw [ca]; rfl
    have hln : lnN (shN (l p)) = 5 := by rw [hs]; rfl
    have d1 : dgB (l (p + 2)) = true := dgv hV (j := 1) (by omega) (by rw [hs]; rfl)
    have d2 : dgB (l (p + 3)) = true := dgv hV (j := 2) (by omega) (by rw [hs]; rfl)
    have d3 : dgB (l (p + 4)) = true := dgv hV (j := 3) (by omega) (by rw [hs]; rfl)
    have hkd : kN (l (p + 1)) < 6 := by
      have h := hf 0 (by omega)
      rw [hs, show chN 1 0 = 107 from rfl, fit107] at h
      exact of_decide_eq_true h
    have hd := td_t hG hR hS hkd (nb1 d1) (nb2 d2 d3) (hU.2.2.2.2.1 ca).1 (hU.2.2.2.2.1 ca).2.1 (hU.2.2.2.2.1 ca).2.2
    rw [ca]
    rw [if_neg (show ¬ nI 116 = 99 by decide)]
    rw [if_neg (show ¬ nI 116 = 100 by decide)]
    rw [if_neg (show ¬ nI 116 = 101 by decide)]
    rw [if_neg (show ¬ nI 116 = 104 by decide)]
    rw [if_pos (show nI 116 = 116 from rfl), kind_at hl (i := p + 1) (by omega), if_pos hkd, dig1 hl (i := p + 2) (by omega) d1, dig2 hl (i := p + 3) (by omega) d2 d3]
    simp only [bsm]
    exact td_w hd
  · have hs : shN (l p) = 2 := by rw [ca]; rfl
    have hln : lnN (shN (l p)) = 4 := by rw [hs]; rfl
    have d1 : dgB (l (p + 2)) = true := dgv hV (j := 1) (by omega) (by rw [hs]; rfl)
    have d2 : dgB (l (p + 3)) = true := dgv hV (j := 2) (by omega) (by rw [hs]; rfl)
    have hkd : kN (l (p + 1)) < 6 := by
      have h := hf 0 (by omega)
      rw [hs, show chN 2 0 = 107 from rfl, fit107] at h
      exact of_decide_eq_true h
    have hd := td_v hG hR hS hkd (nb1 d1) (nb1 d2) (hU.2.2.2.2.2.1 ca).1 (hU.2.2.2.2.2.1 ca).2.1 (hU.2.2.2.2.2.1 ca).2.2
    rw [ca]
    rw [if_neg (show ¬ nI 118 = 99 by decide)]
    rw [if_neg (show ¬ nI 118 = 100 by decide)]
    rw [if_neg (show ¬ nI 118 = 101 by decide)]
    rw [if_neg (show ¬ nI 118 = 104 by decide)]
    rw [if_neg (show ¬ nI 118 = 116 by decide)]
    rw [if_pos (show nI 118 = 118 from rfl), kind_at hl (i := p + 1) (by omega), if_pos hkd, dig1 hl (i := p + 2) (by omega) d1, dig1 hl (i := p + 3) (by omega) d2]
    simp only [bsm]
    exact td_w hd
  · have hs : shN (l p) = 4 := by rw [ca]; rfl
    have hln : lnN (shN (l p)) = 2 := by rw [hs]; rfl
    have d0 : dgB (l (p + 1)) = true := dgv hV (j := 0) (by omega) (by rw [hs]; rfl)
    have hd := td_x hG hR hS (nb1 d0) (hU.2.2.2.2.2.2 ca)
    rw [ca]
    rw [if_neg (show ¬ nI 120 = 99 by decide)]
    rw [if_neg (show ¬ nI 120 = 100 by decide)]
    rw [if_neg (show ¬ nI 120 = 101 by decide)]
    rw [if_neg (show ¬ nI 120 = 104 by decide)]
    rw [if_neg (show ¬ nI 120 = 116 by decide)]
    rw [if_neg (show ¬ nI 120 = 118 by decide)]
    rw [if_pos (show nI 120 = 120 from rfl), dig1 hl (i := p + 1) (by omega) d0]
    simp only [bsm]
    exact td_w hd
theorem vs_det {q' : Nat} (h : Vs l k p q) (h' : Vs l k p q') : q' = q := by
  rw [h.2.2.1, h'.2.2.1]
theorem vs_fs {q' : Nat} (h : Vs l k p q) (h' : Fs l k p q') : False := by
  obtain ⟨hp, hsh, hq, hqk, hf⟩ := h
  rcases h' with ⟨-, e | ⟨-, e⟩⟩ | ⟨-, -, j, hj, e, -, -, e2 | ⟨-, e2⟩⟩
  · omega
  · omega
  · omega
  · have := hf j hj
    rw [e, this] at e2
    exact absurd e2 (by decide)
theorem vs_59 (hl : LL yl xl l k) (h : Vs l k p q) : 0 < q ∧ l (q - 1) = 59 := by
  obtain ⟨hp, hsh, hq, hqk, hf⟩ := h
  have hs := sh_lt _ (hl.2 p hp).2.2
  have h2 := ln_2 _ hsh
  obtain ⟨n, hn⟩ : ∃ n, lnN (shN (l p)) = n + 1 := ⟨lnN (shN (l p)) - 1, by omega⟩
  refine ⟨by omega, ?_⟩
  rw [show q - 1 = p + 1 + n by omega]
  exact (fit_59 hs (by omega) (hf n (by omega))).mpr (by omega)
theorem vs_n59 (hl : LL yl xl l k) (h : Vs l k p q) {j : Nat} (hj : j < lnN (shN (l p))) : ¬ l (p + j) = 59 := by
  obtain ⟨hp, hsh, hq, hqk, hf⟩ := h
  have hs := sh_lt _ (hl.2 p hp).2.2
  cases j with
  | zero => exact first59 hsh
  | succ j =>
    intro e
    rw [show p + (j + 1) = p + 1 + j by omega] at e
    have := (fit_59 hs (by omega) (hf j (by omega))).mp e
    omega
theorem wr_skip (hl : LL yl xl l k) (h : Vs l k p q) (g : LandT) : ∀ j, j ≤ lnN (shN (l p)) → ∀ f, lp (bX1_firstWrongFor_2 yl (nI k)) (f + j) (nI (p + 1), g) = lp (bX1_firstWrongFor_2 yl (nI k)) f (nI (p + 1 + j), g)
  | 0, _, f => rfl
  | j + 1, hj, f => by
    have hk := hl.1
    have hV := h
    obtain ⟨hp, hsh, hq, hqk, hf⟩ := hV
    have hn := vs_n59 hl h (j := j) (by omega)
    have hb : bX1_firstWrongFor_2 yl (nI k) (nI (p + 1 + j), g) = some (.inl (nI (p + 1 + (j + 1)), g)) := by
      dsimp only [bX1_firstWrongFor_2]
      rw [if_len rfl rfl (by omega) (by omega), if_neg (by omega), if_eqn (v := 0) (k := 0) rfl (by omega) (by omega), if_neg (by omega), show nI (p + 1 + j) - 1 = nI (p + j) by rw [show p + 1 + j = p + j + 1 by omega]; exact nI_pred (p + j), if_ob (show p + j < 96 by omega) (by omega), cl (by omega), (hl.2 (p + j) (by omega)).1, if_eqn (v := 59) (k := 59) rfl (Nat.lt_of_lt_of_le (hl.2 (p + j) (by omega)).2.2 (by omega)) (by omega), if_neg hn]
      simp only [bsm, if_true]
      rw [nI_1, show p + 1 + j + 1 = p + 1 + (j + 1) from rfl]
    rw [show f + (j + 1) = f + 1 + j by omega, wr_skip hl h g j (by omega) (f + 1)]
    exact lp_in hb f
theorem no2000 : ∀ q, q ≤ 96 → ¬ (-2000 : Int32) - nI q = -9 := by decide +kernel
theorem nom1 : ∀ q, q ≤ 96 → ¬ nI q = -1 := by decide +kernel
theorem wr_head (hl : LL yl xl l k) (hp : p < k) (hb : p = 0 ∨ (0 < p ∧ l (p - 1) = 59)) {x : Int32} {g' : LandT} (h : fX1_tell (nI p) yl (nI k) g = some (x, g')) : bX1_firstWrongFor_2 yl (nI k) (nI p, g) = if x = 0 then some (.inr (.inl (nI p, g'))) else some (.inl (nI (p + 1), g')) := by
  have hk := hl.1
  dsimp only [bX1_firstWrongFor_2]
  rw [if_len rfl rfl (by omega) (by omega), if_neg (by omega), if_eqn (v := 0) (k := 0) rfl (by omega) (by omega)]
  rcases hb with hb | ⟨hb, h9⟩
  · rw [if_pos hb]
    simp only [bsm, j_n1]
    rw [h, nI_1]
    simp only [bsm]
  · rw [if_neg (by omega), show nI p - 1 = nI (p - 1) from pk_sub (b := 1) hb, if_ob (show p - 1 < 96 by omega) (by omega), cl (by omega), (hl.2 (p - 1) (by omega)).1, h9, if_pos (show nI 59 = 59 from rfl)]
    simp only [bsm, j_n1]
    rw [h, nI_1]
    simp only [bsm]
theorem pass2 (hl : LL yl xl l k) {L0 : LdN} {x11 : Nat → Int32} (hR0 : RR x11 L0) : ∀ n p g r u L, Chn l k n p → (p = 0 ∨ (0 < p ∧ l (p - 1) = 59)) → GR g L → RR r L → LdS L → ∃ o t', (∀ f, lp (bX1_firstWrongFor_2 yl (nI k)) (f + (k - p) + 1) (nI p, g) = some o) ∧ (∀ f, lp (bX4_land_62 xl (nI k) x11) (f + (k - p) + 1) (-9, r, nI p, u) = some t') ∧ ((∃ g' L' r' u', LdS L' ∧ GR g' L' ∧ RR r' L' ∧ o = .inr g' ∧ t' = (-9, r', nI k, u')) ∨ (∃ j g' r' p2 u', j < k ∧ o = .inl (nI j, g') ∧ RR r' L0 ∧ t' = (-2000 - nI j, r', p2, u')))
  | 0, p, g, r, u, L, hC, hb, hG, hR, hS => by
    have hk := hl.1
    have hpk : p = k := hC
    subst hpk
    refine ⟨.inr g, (-9, r, nI p, u), fun f => lp_out ?_ _, fun f => lp_out ?_ _, Or.inl ⟨g, L, r, u, hS, hG, hR, rfl, rfl⟩⟩
    · dsimp only [bX1_firstWrongFor_2]
      rw [if_len rfl rfl (by omega) (by omega), if_pos (Nat.le_refl p)]
    · dsimp only [bX4_land_62]
      rw [if_pos rfl, if_len rfl rfl (by omega) (by omega), if_pos (Nat.le_refl p)]
  | n + 1, p, g, r, u, L, ⟨q, hV, hC⟩, hb, hG, hR, hS => by
    have hk := hl.1
    have hV2 := hV
    obtain ⟨hp, hsh, hq, hqk, -⟩ := hV2
    have hln := ln_2 _ hsh
    obtain ⟨x, q', u', e, h⟩ := rd_stmt hl (p := p) (by omega) u
    rcases h with ⟨rfl, hV', hU⟩ | ⟨-, hF⟩
    · have hqq := vs_det hV hV'
      subst hqq
      obtain ⟨x, g', y, r', t1, t2, ht⟩ := tell_done hl hV hU hG hR hS
      have hA := wr_head hl hp hb t1
      have hB : bX4_land_62 xl (nI k) x11 (-9, r, nI p, u) = if y = 0 then Option.bind (fX4_copies x11 r') (fun x23 => some (.inl (-2000 - nI p, x23, nI q', u'))) else some (.inl (-9, r', nI q', u')) := by
        dsimp only [bX4_land_62]
        rw [if_pos rfl, if_len rfl rfl (by omega) (by omega), if_neg (by omega), here_eq hl (q := p) (by omega), if_pos hp, e]
        simp only [bsm]
        rw [t2]
        simp only [bsm]
      rcases ht with ⟨rfl, rfl, L', hS', hG', hR'⟩ | ⟨rfl, rfl⟩
      · rw [j_n1] at hA hB
        obtain ⟨o, t', a1, a2, a3⟩ := pass2 hl hR0 n q' g' r' u' L' hC (Or.inr (vs_59 hl hV)) hG' hR' hS'
        refine ⟨o, t', fun f => ?_, fun f => ?_, a3⟩
        · rw [show f + (k - p) + 1 = f + (k - q') + 1 + lnN (shN (l p)) + 1 by omega, lp_in hA, wr_skip hl hV g' _ (Nat.le_refl _), ← hq]
          exact a1 f
        · rw [lp_in hB, show f + (k - p) = (f + (q' - p) - 1) + (k - q') + 1 by omega]
          exact a2 _
      · rw [if_pos rfl] at hA hB
        obtain ⟨r3, c1, c2⟩ := rx_copy (r := x11) (r2 := r') hR0
        rw [c1, bsm] at hB
        refine ⟨.inl (nI p, g'), (-2000 - nI p, r3, nI q', u'), fun f => lp_out hA _, fun f => ?_, Or.inr ⟨p, g', r3, _, _, hp, rfl, c2, rfl⟩⟩
        rw [lp_in hB, show f + (k - p) = (f + (k - p) - 1) + 1 by omega]
        refine lp_out ?_ _
        dsimp only [bX4_land_62]
        rw [if_neg (no2000 p (by omega))]
    · exact (vs_fs hV hF).elim
theorem mis_two (hl : LL yl xl l k) (u : Nat → Int32) : (∃ q t2 p2 u', q ≤ k ∧ fX1_firstMisfit yl (nI k) = some (nI q) ∧ lp (bX4_land_10 xl (nI k)) fu (0, -9, 0, u) = some (t2, -1000 - nI q, p2, u')) ∨ (∃ n u', Chn l k n 0 ∧ fX1_firstMisfit yl (nI k) = some (-1) ∧ lp (bX4_land_10 xl (nI k)) fu (0, -9, 0, u) = some (nI n, -9, nI k, u')) := by
  have hk := hl.1
  by_cases hk0 : k = 0
  · subst hk0
    obtain ⟨x, q, u', e, h⟩ := rd_stmt hl (p := 0) (by omega) u
    have hq : x = 0 ∧ q = 0 := by
      rcases h with ⟨-, hV, -⟩ | ⟨h, hF⟩
      · exact absurd hV.1 (by omega)
      · refine ⟨h, ?_⟩
        rcases hF with ⟨h, -⟩ | ⟨h, -⟩
        · exact h
        · omega
    obtain ⟨rfl, rfl⟩ := hq
    refine Or.inl ⟨0, 1, nI 0, u', Nat.le_refl 0, ?_, ?_⟩
    · unfold fX1_firstMisfit
      have h1 : lp (bX1_firstMisfit_4 yl (nI 0)) fu (0, 0) = some (.inr (nI 0)) := lp_out (mis_e hl 0) 999
      rw [h1, bsm]
      rfl
    · refine lp_out (body := bX4_land_10 xl (nI 0)) ?_ 999
      have e' : fX4_readsStatement xl (nI 0) 0 u = some (0, nI 0, u') := e
      dsimp only [bX4_land_10]
      rw [e']
      simp only [bsm, if_true]
      exact (if_neg (no1000 0 (by omega))).trans rfl
  · have hfu : fu = (999 - k) + (k - 0) + 1 := by
      show 1000 = _
      omega
    obtain ⟨o, t', a1, a2, a3⟩ := pass1 hl k 0 0 u (by omega) (by omega)
    have b1 : lp (bX1_firstMisfit_4 yl (nI k)) fu (0, 0) = some o := by
      rw [hfu]
      exact a1 _
    have b2 : lp (bX4_land_10 xl (nI k)) fu (0, -9, 0, u) = some t' := by
      rw [hfu]
      exact a2 _
    unfold fX1_firstMisfit
    rw [b1, b2, bsm]
    rcases a3 with ⟨n, u', hC, rfl, rfl⟩ | ⟨q, u', t2, p2, hq, ho, rfl⟩
    · refine Or.inr ⟨n, u', hC, ?_, by rw [Nat.zero_add]⟩
      show (if nI k = 0 then some (nI k) else if nI k ≤ nI k then some (-1) else some (nI k)) = some (-1)
      rw [if_eqn (v := 0) (k := 0) rfl (by omega) (by omega), if_neg hk0, if_len rfl rfl (by omega) (by omega), if_pos (Nat.le_refl k)]
    · refine Or.inl ⟨q, t2, p2, u', hq, ?_, rfl⟩
      rcases ho with ⟨-, rfl⟩ | ⟨hqk, s, hs, rfl⟩
      · rfl
      · subst hqk
        show (if nI q = 0 then some (nI q) else if nI q ≤ nI s then some (-1) else some (nI q)) = some (nI q)
        rw [if_eqn (v := 0) (k := 0) rfl (by omega) (by omega), if_neg hk0, if_len rfl rfl (by omega) (by omega), if_neg (by omega)]
end TXL
theorem st_land (yn : LandT) (ym : LandT) (yk : LandT) (yl : (Nat → Int32)) (yt : Int32) (yd : Int32) (yu : (Nat → Int32)) (ye : (Nat → Int32)) (yv : (Nat → Int32)) (yo : (Nat → Int64)) (y0 : (Nat → Int32)) (y1 : (Nat → Int32)) (yc : Int32) (yh : Int32) (xs : (Nat → Int32)) (xm : (Nat → Int32)) (xi : (Nat → Int32)) (xw : (Nat → Int32)) (xh : Int32) (xl : (Nat → Int32)) (xr : (Nat → Int32)) (xe : (Nat → Int32)) (xn : Int32) (xo : Int32) (xp : Int32) (xu : (Nat → Int32)) (xd : Int32)  (hI : Inv yn yk yl yt yu ye yc yh xs xi xh xl xr xe xn xo) : ∃ (ra : Int32 × LandT × LandT × Int32) (rb : Int32 × (Nat → Int32) × (Nat → Int32) × Int32 × Int32 × (Nat → Int32)), fX3_land yn ym yl yt = some ra ∧ fX4_land xs xw xl xn xp xu = some rb ∧ ra.1 = rb.1 ∧ Inv ra.2.1 yk yl ra.2.2.2 yu ye yc yh rb.2.1 xi xh xl xr xe rb.2.2.2.1 xo := by
  obtain ⟨⟨L, hS, hG, hR⟩, hB, ⟨k, hk, rfl, rfl, hj⟩, hD, hE⟩ := hI
  obtain ⟨l, hl⟩ : ∃ l, LL yl xl l k := by
    refine ⟨fun j => Int32.toNatClampNeg (yl j), hk, fun j h => ?_⟩
    obtain ⟨v, hv, a, b⟩ := hj j h
    have e : Int32.toNatClampNeg (yl j) = v := by rw [a, cl (by omega)]
    show yl j = nI (Int32.toNatClampNeg (yl j)) ∧ xl j = nI (Int32.toNatClampNeg (yl j)) ∧ Int32.toNatClampNeg (yl j) < 256
    rw [e]
    exact ⟨a, b, hv⟩
  obtain ⟨x11, ec, hR1⟩ := rx_copy (r := xs) (r2 := xw) hR
  have hI0 : ∀ yn' xs', (∃ L, LdS L ∧ GR yn' L ∧ RR xs' L) → Inv yn' yk yl 0 yu ye yc yh xs' xi xh xl xr xe 0 xo := fun yn' xs' h => ⟨h, hB, ⟨0, by omega, rfl, rfl, fun j h => absurd h (Nat.not_lt_zero j)⟩, hD, hE⟩
  have e0 : fX3_inMind yn ym = some yn := rfl
  have ef : fX1_forget (nI k) = some 0 := rfl
  have es := gx_stm hl
  rcases mis_two hl xu with ⟨q, t2, p2, u', hq, m1, m2⟩ | ⟨n, u', hC, m1, m2⟩
  · have hq1 := nom1 q (by omega)
    refine ⟨(-1000 - nI q, yn, yn, 0), (-1000 - nI q, xs, x11, 0, 0, u'), ?_, ?_, rfl, hI0 _ _ ⟨L, hS, hG, hR⟩⟩
    · unfold fX3_land
      simp only [e0, m1, es, ef, bsm, if_neg hq1]
    · have h2 : lp (bX4_land_62 xl (nI k) x11) fu (-1000 - nI q, xs, 0, u') = some (-1000 - nI q, xs, 0, u') := by
        refine lp_out (body := bX4_land_62 xl (nI k) x11) ?_ 999
        dsimp only [bX4_land_62]
        rw [if_neg (no1000 q (by omega))]
      unfold fX4_land
      simp only [m2, ec, h2, bsm, if_neg (no1000 q (Nat.le_trans hq hk))]
  · have hfu : fu = (999 - k) + (k - 0) + 1 := by
      show 1000 = _
      omega
    have hcn : c59 l k = n := by
      rw [c59_C hl n 0 hC]
      show 0 + n = n
      omega
    rw [hcn] at es
    obtain ⟨o, t', a1, a2, a3⟩ := pass2 hl hR1 n 0 yn xs u' L hC (Or.inl rfl) hG hR hS
    have b1 : lp (bX1_firstWrongFor_2 yl (nI k)) fu (0, yn) = some o := by
      rw [hfu]
      exact a1 _
    have b2 : lp (bX4_land_62 xl (nI k) x11) fu (-9, xs, 0, u') = some t' := by
      rw [hfu]
      exact a2 _
    rcases a3 with ⟨g', L', r', u2, hS', hG', hR', rfl, rfl⟩ | ⟨j, g', r', p2, u2, hjk, rfl, hR', rfl⟩
    · have b3 : fX1_firstWrongFor yl (nI k) yn = some (-1, g') := by
        unfold fX1_firstWrongFor
        rw [b1, bsm]
        rfl
      have b4 : fX0_copyFrom yn g' = some g' := rfl
      refine ⟨(nI n, g', g', 0), (nI n, r', x11, 0, nI k, u2), ?_, ?_, rfl, hI0 _ _ ⟨L', hS', hG', hR'⟩⟩
      · unfold fX3_land
        simp only [e0, m1, es, ef, b3, b4, bsm, if_true]
      · unfold fX4_land
        simp only [m2, ec, b2, bsm, if_true]
    · have hj1 := nom1 j (by omega)
      have b3 : fX1_firstWrongFor yl (nI k) yn = some (nI j, g') := by
        unfold fX1_firstWrongFor
        rw [b1, bsm]
        rfl
      refine ⟨(-2000 - nI j, yn, g', 0), (-2000 - nI j, r', x11, 0, p2, u2), ?_, ?_, rfl, hI0 _ _ ⟨L, hS, hG, hR'⟩⟩
      · unfold fX3_land
        simp only [e0, m1, es, ef, b3, bsm, if_true, if_neg hj1]
      · unfold fX4_land
        simp only [m2, ec, b2, bsm, if_neg (no2000 j (Nat.le_trans (Nat.le_of_lt hjk) hk))]
