/-! ===== one statement, as the reference reads it ===== -/
/-- a whole statement from p up to p' -/
def Vs (l : Nat → Nat) (k p p' : Nat) : Prop := p < k ∧ shN (l p) < 5 ∧ p' = p + 1 + lnN (shN (l p)) ∧ p' ≤ k ∧ ∀ j, j < lnN (shN (l p)) → fitc (chN (shN (l p)) j) (l (p + 1 + j)) = true
/-- no statement from p, the first misfit at p' -/
def Fs (l : Nat → Nat) (k p p' : Nat) : Prop := (p' = p ∧ (p = k ∨ (p < k ∧ shN (l p) = 5))) ∨ (p < k ∧ shN (l p) < 5 ∧ ∃ j, j < lnN (shN (l p)) ∧ p' = p + 1 + j ∧ p' ≤ k ∧ (∀ i, i < j → fitc (chN (shN (l p)) i) (l (p + 1 + i)) = true) ∧ (p' = k ∨ (p' < k ∧ fitc (chN (shN (l p)) j) (l p') = false)))
def Pg (l : Nat → Nat) (k p o : Nat) : Prop := p + 1 + o ≤ k ∧ ∀ i, i < o → fitc (chN (shN (l p)) i) (l (p + 1 + i)) = true
def valU (l : Nat → Nat) (p : Nat) (u : Nat → Int32) : Prop := (l p = 99 → u 0 = nI (nbN l (p + 1) 2) ∧ u 1 = nI (nbN l (p + 3) 1)) ∧ (l p = 100 → u 0 = nI (nbN l (p + 1) 1) ∧ u 1 = nI (nbN l (p + 2) 2)) ∧ (l p = 101 → u 0 = nI (nbN l (p + 1) 2)) ∧ (l p = 104 → u 0 = nI (nbN l (p + 1) 2)) ∧ (l p = 116 → u 0 = nI (kN (l (p + 1))) ∧ u 1 = nI (nbN l (p + 2) 1) ∧ u 2 = nI (nbN l (p + 3) 2)) ∧ (l p = 118 → u 0 = nI (kN (l (p + 1))) ∧ u 1 = nI (nbN l (p + 2) 1) ∧ u 2 = nI (nbN l (p + 3) 1)) ∧ (l p = 120 → u 0 = nI (nbN l (p + 1) 1))
theorem fit48 (c : Nat) : fitc 48 c = dgB c := by
  unfold fitc
  rw [if_pos rfl]
theorem fit107 (c : Nat) : fitc 107 c = decide (kN c < 6) := by
  unfold fitc
  rw [if_neg (by omega), if_pos rfl]
theorem fit59 (c : Nat) : fitc 59 c = decide (c = 59) := by
  unfold fitc
  rw [if_neg (by omega), if_neg (by omega)]
section TXS
variable {yl xl : Nat → Int32} {l : Nat → Nat} {k : Nat}
theorem sn (hl : LL yl xl l k) {p s w o : Nat} (hp : p < k) (hsh : shN (l p) < 5) (hs : s < 3) (hw : w ≤ 2) (hP : Pg l k p o) (ho : o + w < lnN (shN (l p))) (hch : ∀ i, i < w → chN (shN (l p)) (o + i) = 48) (u : Nat → Int32) : ∃ x q' u', fX4_readsNumber (nI s) (nI w) xl (nI k) (nI (p + 1 + o)) u = some (x, nI q', u') ∧ ((x = 1 ∧ q' = p + 1 + (o + w) ∧ Pg l k p (o + w) ∧ u' s = nI (nbN l (p + 1 + o) w) ∧ ∀ j, j ≠ s → u' j = u j) ∨ (x = 0 ∧ Fs l k p q')) := by
  obtain ⟨x, q', u', h1, h2⟩ := rd_num hl (s := s) (w := w) (q := p + 1 + o) hs hw hP.1 u
  refine ⟨x, q', u', h1, ?_⟩
  rcases h2 with ⟨h3, h4, h5, h6, h7, h8⟩ | ⟨h3, h4, h5, h6, h7, h8⟩
  · refine Or.inl ⟨h3, by omega, ⟨by omega, fun i hi => ?_⟩, h7, h8⟩
    by_cases q : i < o
    · exact hP.2 i q
    · have z := hch (i - o) (by omega)
      rw [show o + (i - o) = i by omega] at z
      have z2 := h6 (i - o) (by omega)
      rw [show p + 1 + o + (i - o) = p + 1 + i by omega] at z2
      rw [z, fit48]
      exact z2
  · refine Or.inr ⟨h3, Or.inr ⟨hp, hsh, q' - (p + 1), by omega, by omega, h6, fun i hi => ?_, ?_⟩⟩
    · by_cases q : i < o
      · exact hP.2 i q
      · have z := hch (i - o) (by omega)
        rw [show o + (i - o) = i by omega] at z
        have z2 := h7 (i - o) (by omega)
        rw [show p + 1 + o + (i - o) = p + 1 + i by omega] at z2
        rw [z, fit48]
        exact z2
    · rcases h8 with h8 | ⟨h8, h9⟩
      · exact Or.inl h8
      · have z := hch (q' - (p + 1 + o)) (by omega)
        rw [show o + (q' - (p + 1 + o)) = q' - (p + 1) by omega] at z
        rw [z, fit48]
        exact Or.inr ⟨h8, h9⟩
theorem sk (hl : LL yl xl l k) {p : Nat} (hp : p < k) (hsh : shN (l p) = 1 ∨ shN (l p) = 2) (u : Nat → Int32) : ∃ x q' u', fX4_readsKind xl (nI k) (nI (p + 1)) u = some (x, nI q', u') ∧ ((x = 1 ∧ q' = p + 1 + 1 ∧ Pg l k p 1 ∧ u' 0 = nI (kN (l (p + 1))) ∧ ∀ j, j ≠ 0 → u' j = u j) ∨ (x = 0 ∧ Fs l k p q')) := by
  have hc : chN (shN (l p)) 0 = 107 := by
    rcases hsh with h | h <;> rw [h] <;> rfl
  have hln : 0 < lnN (shN (l p)) := by
    rcases hsh with h | h <;> rw [h] <;> decide
  obtain ⟨x, q', u', h1, h2⟩ := rd_kind hl (q := p + 1) (by omega) u
  refine ⟨x, q', u', h1, ?_⟩
  rcases h2 with ⟨h3, h4, h5, h6, h7, h8⟩ | ⟨h3, h4, h5⟩
  · refine Or.inl ⟨h3, h4, ⟨by omega, fun i hi => ?_⟩, h7, h8⟩
    rw [show i = 0 by omega, hc, fit107]
    exact decide_eq_true h6
  · refine Or.inr ⟨h3, Or.inr ⟨hp, by omega, 0, hln, by omega, by omega, fun i hi => absurd hi (Nat.not_lt_zero i), ?_⟩⟩
    rcases h5 with h5 | ⟨h5, h6⟩
    · exact Or.inl (by omega)
    · refine Or.inr ⟨by omega, ?_⟩
      rw [hc, fit107, h4]
      exact decide_eq_false h6
theorem se (hl : LL yl xl l k) {p o : Nat} (hp : p < k) (hsh : shN (l p) < 5) (hP : Pg l k p o) (ho : o + 1 = lnN (shN (l p))) : ∃ c, fX4_here xl (nI k) (nI (p + 1 + o)) = some c ∧ ((c = 59 ∧ Vs l k p (p + 1 + o + 1)) ∨ (¬ c = 59 ∧ Fs l k p (p + 1 + o))) := by
  have hc : chN (shN (l p)) o = 59 := by
    unfold chN
    rw [if_pos ho]
  refine ⟨_, here_eq hl hP.1, ?_⟩
  by_cases h : p + 1 + o < k
  · rw [if_pos h]
    have hb := (hl.2 _ h).2.2
    by_cases h2 : l (p + 1 + o) = 59
    · refine Or.inl ⟨by rw [h2]; rfl, hp, hsh, by omega, by omega, fun j hj => ?_⟩
      by_cases q : j < o
      · exact hP.2 j q
      · rw [show j = o by omega, hc, fit59]
        exact decide_eq_true h2
    · refine Or.inr ⟨fun q => h2 ((n_eq (b := 59) (by omega) (by omega)).mp q), Or.inr ⟨hp, hsh, o, by omega, rfl, hP.1, hP.2, Or.inr ⟨h, ?_⟩⟩⟩
      rw [hc, fit59]
      exact decide_eq_false h2
  · rw [if_neg h]
    have := hP.1
    exact Or.inr ⟨by decide, Or.inr ⟨hp, hsh, o, by omega, rfl, hP.1, hP.2, Or.inl (by omega)⟩⟩
set_option maxHeartbeats 4000000 in
theorem rd_stmt (hl : LL yl xl l k) {p : Nat} (hp : p ≤ k) (u : Nat → Int32) : ∃ x q' u', fX4_readsStatement xl (nI k) (nI p) u = some (x, nI q', u') ∧ ((x = 1 ∧ Vs l k p q' ∧ valU l p u') ∨ (x = 0 ∧ Fs l k p q')) := by
  have hk := hl.1
  unfold fX4_readsStatement
  rw [here_eq hl hp]
  simp only [bsm]
  have hend : (nI p + 1) - 1 = nI p := by rw [nI_1, nI_pred]
  by_cases hpk : p < k
  · have hc := (hl.2 p hpk).2.2
    rw [if_pos hpk]
    rw [if_eqn (v := 99) (k := 99) rfl (by omega) (by omega)]
    by_cases c99 : l p = 99
    · have hs : shN (l p) = 0 := by rw [c99]; rfl
      have hsh : shN (l p) < 5 := by omega
      have hln : lnN (shN (l p)) = 4 := by rw [hs]; rfl
      have hP0 : Pg l k p 0 := ⟨by omega, fun i hi => absurd hi (Nat.not_lt_zero i)⟩
      rw [if_pos c99, nI_1]
      obtain ⟨x0, q0, u0, e0, h0⟩ := sn hl (s := 0) (w := 2) (o := 0) hpk hsh (by omega) (by omega) hP0 (by omega) (by rw [hs]; decide) u
      rw [show fX4_readsNumber 0 2 xl (nI k) (nI (p + 1)) u = some (x0, nI q0, u0) from e0]
      simp only [bsm]
      rcases h0 with ⟨rfl, rfl, hP1, hu0, hv0⟩ | ⟨rfl, hF⟩
      · simp only [i_n1, bsm]
        obtain ⟨x1, q1, u1, e1, h1⟩ := sn hl (s := 1) (w := 1) (o := 2) hpk hsh (by omega) (by omega) hP1 (by omega) (by rw [hs]; decide) u0
        rw [show fX4_readsNumber 1 1 xl (nI k) (nI (p + 1 + (0 + 2))) u0 = some (x1, nI q1, u1) from e1]
        simp only [bsm]
        rcases h1 with ⟨rfl, rfl, hP2, hu1, hv1⟩ | ⟨rfl, hF⟩
        · simp only [i_n1, bsm]
          obtain ⟨c, ec, hce⟩ := se hl hpk hsh hP2 (o := 3) (by omega)
          rw [show fX4_here xl (nI k) (nI (p + 1 + (2 + 1))) = some c from ec]
          simp only [bsm]
          rcases hce with ⟨rfl, hVs⟩ | ⟨hne, hF⟩
          · rw [if_pos rfl, nI_1]
            exact ⟨1, _, _, rfl, Or.inl ⟨rfl, hVs, fun _ => ⟨((hv1 0 (by omega)).trans hu0), hu1⟩, fun q => absurd q (by omega), fun q => absurd q (by omega), fun q => absurd q (by omega), fun q => absurd q (by omega), fun q => absurd q (by omega), fun q => absurd q (by omega)⟩⟩
          · rw [if_neg hne]
            exact ⟨0, _, _, rfl, Or.inr ⟨rfl, hF⟩⟩
        · simp only [if_true, bsm]
          exact ⟨0, _, _, rfl, Or.inr ⟨rfl, hF⟩⟩
      · simp only [if_true, bsm]
        exact ⟨0, _, _, rfl, Or.inr ⟨rfl, hF⟩⟩
    rw [if_neg c99]
    rw [if_eqn (v := 100) (k := 100) rfl (by omega) (by omega)]
    by_cases c100 : l p = 100
    · have hs : shN (l p) = 0 := by rw [c100]; rfl
      have hsh : shN (l p) < 5 := by omega
      have hln : lnN (shN (l p)) = 4 := by rw [hs]; rfl
      have hP0 : Pg l k p 0 := ⟨by omega, fun i hi => absurd hi (Nat.not_lt_zero i)⟩
      rw [if_pos c100, nI_1]
      obtain ⟨x0, q0, u0, e0, h0⟩ := sn hl (s := 0) (w := 1) (o := 0) hpk hsh (by omega) (by omega) hP0 (by omega) (by rw [hs]; decide) u
      rw [show fX4_readsNumber 0 1 xl (nI k) (nI (p + 1)) u = some (x0, nI q0, u0) from e0]
      simp only [bsm]
      rcases h0 with ⟨rfl, rfl, hP1, hu0, hv0⟩ | ⟨rfl, hF⟩
      · simp only [i_n1, bsm]
        obtain ⟨x1, q1, u1, e1, h1⟩ := sn hl (s := 1) (w := 2) (o := 1) hpk hsh (by omega) (by omega) hP1 (by omega) (by rw [hs]; decide) u0
        rw [show fX4_readsNumber 1 2 xl (nI k) (nI (p + 1 + (0 + 1))) u0 = some (x1, nI q1, u1) from e1]
        simp only [bsm]
        rcases h1 with ⟨rfl, rfl, hP2, hu1, hv1⟩ | ⟨rfl, hF⟩
        · simp only [i_n1, bsm]
          obtain ⟨c, ec, hce⟩ := se hl hpk hsh hP2 (o := 3) (by omega)
          rw [show fX4_here xl (nI k) (nI (p + 1 + (1 + 2))) = some c from ec]
          simp only [bsm]
          rcases hce with ⟨rfl, hVs⟩ | ⟨hne, hF⟩
          · rw [if_pos rfl, nI_1]
            exact ⟨1, _, _, rfl, Or.inl ⟨rfl, hVs, fun q => absurd q (by omega), fun _ => ⟨((hv1 0 (by omega)).trans hu0), hu1⟩, fun q => absurd q (by omega), fun q => absurd q (by omega), fun q => absurd q (by omega), fun q => absurd q (by omega), fun q => absurd q (by omega)⟩⟩
          · rw [if_neg hne]
            exact ⟨0, _, _, rfl, Or.inr ⟨rfl, hF⟩⟩
        · simp only [if_true, bsm]
          exact ⟨0, _, _, rfl, Or.inr ⟨rfl, hF⟩⟩
      · simp only [if_true, bsm]
        exact ⟨0, _, _, rfl, Or.inr ⟨rfl, hF⟩⟩
    rw [if_neg c100]
    rw [if_eqn (v := 101) (k := 101) rfl (by omega) (by omega)]
    by_cases c101 : l p = 101
    · have hs : shN (l p) = 3 := by rw [c101]; rfl
      have hsh : shN (l p) < 5 := by omega
      have hln : lnN (shN (l p)) = 3 := by rw [hs]; rfl
      have hP0 : Pg l k p 0 := ⟨by omega, fun i hi => absurd hi (Nat.not_lt_zero i)⟩
      rw [if_pos c101, nI_1]
      obtain ⟨x0, q0, u0, e0, h0⟩ := sn hl (s := 0) (w := 2) (o := 0) hpk hsh (by omega) (by omega) hP0 (by omega) (by rw [hs]; decide) u
      rw [show fX4_readsNumber 0 2 xl (nI k) (nI (p + 1)) u = some (x0, nI q0, u0) from e0]
      simp only [bsm]
      rcases h0 with ⟨rfl, rfl, hP1, hu0, hv0⟩ | ⟨rfl, hF⟩
      · simp only [i_n1, bsm]
        obtain ⟨c, ec, hce⟩ := se hl hpk hsh hP1 (o := 2) (by omega)
        rw [show fX4_here xl (nI k) (nI (p + 1 + (0 + 2))) = some c from ec]
        simp only [bsm]
        rcases hce with ⟨rfl, hVs⟩ | ⟨hne, hF⟩
        · rw [if_pos rfl, nI_1]
          exact ⟨1, _, _, rfl, Or.inl ⟨rfl, hVs, fun q => absurd q (by omega), fun q => absurd q (by omega), fun _ => hu0, fun q => absurd q (by omega), fun q => absurd q (by omega), fun q => absurd q (by omega), fun q => absurd q (by omega)⟩⟩
        · rw [if_neg hne]
          exact ⟨0, _, _, rfl, Or.inr ⟨rfl, hF⟩⟩
      · simp only [if_true, bsm]
        exact ⟨0, _, _, rfl, Or.inr ⟨rfl, hF⟩⟩
    rw [if_neg c101]
    rw [if_eqn (v := 104) (k := 104) rfl (by omega) (by omega)]
    by_cases c104 : l p = 104
    · have hs : shN (l p) = 3 := by rw [c104]; rfl
      have hsh : shN (l p) < 5 := by omega
      have hln : lnN (shN (l p)) = 3 := by rw [hs]; rfl
      have hP0 : Pg l k p 0 := ⟨by omega, fun i hi => absurd hi (Nat.not_lt_zero i)⟩
      rw [if_pos c104, nI_1]
      obtain ⟨x0, q0, u0, e0, h0⟩ := sn hl (s := 0) (w := 2) (o := 0) hpk hsh (by omega) (by omega) hP0 (by omega) (by rw [hs]; decide) u
      rw [show fX4_readsNumber 0 2 xl (nI k) (nI (p + 1)) u = some (x0, nI q0, u0) from e0]
      simp only [bsm]
      rcases h0 with ⟨rfl, rfl, hP1, hu0, hv0⟩ | ⟨rfl, hF⟩
      · simp only [i_n1, bsm]
        obtain ⟨c, ec, hce⟩ := se hl hpk hsh hP1 (o := 2) (by omega)
        rw [show fX4_here xl (nI k) (nI (p + 1 + (0 + 2))) = some c from ec]
        simp only [bsm]
        rcases hce with ⟨rfl, hVs⟩ | ⟨hne, hF⟩
        · rw [if_pos rfl, nI_1]
          exact ⟨1, _, _, rfl, Or.inl ⟨rfl, hVs, fun q => absurd q (by omega), fun q => absurd q (by omega), fun q => absurd q (by omega), fun _ => hu0, fun q => absurd q (by omega), fun q => absurd q (by omega), fun q => absurd q (by omega)⟩⟩
        · rw [if_neg hne]
          exact ⟨0, _, _, rfl, Or.inr ⟨rfl, hF⟩⟩
      · simp only [if_true, bsm]
        exact ⟨0, _, _, rfl, Or.inr ⟨rfl, hF⟩⟩
    rw [if_neg c104]
    rw [if_eqn (v := 116) (k := 116) rfl (by omega) (by omega)]
    by_cases c116 : l p = 116
    · have hs : shN (l p) = 1 := by rw [c116]; rfl
      have hsh : shN (l p) < 5 := by omega
      have hln : lnN (shN (l p)) = 5 := by rw [hs]; rfl
      have hP0 : Pg l k p 0 := ⟨by omega, fun i hi => absurd hi (Nat.not_lt_zero i)⟩
      rw [if_pos c116, nI_1]
      obtain ⟨x0, q0, u0, e0, h0⟩ := sk hl hpk (by omega) u
      rw [show fX4_readsKind xl (nI k) (nI (p + 1)) u = some (x0, nI q0, u0) from e0]
      simp only [bsm]
      rcases h0 with ⟨rfl, rfl, hP1, hu0, hv0⟩ | ⟨rfl, hF⟩
      · simp only [i_n1, bsm]
        obtain ⟨x1, q1, u1, e1, h1⟩ := sn hl (s := 1) (w := 1) (o := 1) hpk hsh (by omega) (by omega) hP1 (by omega) (by rw [hs]; decide) u0
        rw [show fX4_readsNumber 1 1 xl (nI k) (nI (p + 1 + 1)) u0 = some (x1, nI q1, u1) from e1]
        simp only [bsm]
        rcases h1 with ⟨rfl, rfl, hP2, hu1, hv1⟩ | ⟨rfl, hF⟩
        · simp only [i_n1, bsm]
          obtain ⟨x2, q2, u2, e2, h2⟩ := sn hl (s := 2) (w := 2) (o := 2) hpk hsh (by omega) (by omega) hP2 (by omega) (by rw [hs]; decide) u1
          rw [show fX4_readsNumber 2 2 xl (nI k) (nI (p + 1 + (1 + 1))) u1 = some (x2, nI q2, u2) from e2]
          simp only [bsm]
          rcases h2 with ⟨rfl, rfl, hP3, hu2, hv2⟩ | ⟨rfl, hF⟩
          · simp only [i_n1, bsm]
            obtain ⟨c, ec, hce⟩ := se hl hpk hsh hP3 (o := 4) (by omega)
            rw [show fX4_here xl (nI k) (nI (p + 1 + (2 + 2))) = some c from ec]
            simp only [bsm]
            rcases hce with ⟨rfl, hVs⟩ | ⟨hne, hF⟩
            · rw [if_pos rfl, nI_1]
              exact ⟨1, _, _, rfl, Or.inl ⟨rfl, hVs, fun q => absurd q (by omega), fun q => absurd q (by omega), fun q => absurd q (by omega), fun q => absurd q (by omega), fun _ => ⟨((hv2 0 (by omega)).trans ((hv1 0 (by omega)).trans hu0)), ((hv2 1 (by omega)).trans hu1), hu2⟩, fun q => absurd q (by omega), fun q => absurd q (by omega)⟩⟩
            · rw [if_neg hne]
              exact ⟨0, _, _, rfl, Or.inr ⟨rfl, hF⟩⟩
          · simp only [if_true, bsm]
            exact ⟨0, _, _, rfl, Or.inr ⟨rfl, hF⟩⟩
        · simp only [if_true, bsm]
          exact ⟨0, _, _, rfl, Or.inr ⟨rfl, hF⟩⟩
      · simp only [if_true, bsm]
        exact ⟨0, _, _, rfl, Or.inr ⟨rfl, hF⟩⟩
    rw [if_neg c116]
    rw [if_eqn (v := 118) (k := 118) rfl (by omega) (by omega)]
    by_cases c118 : l p = 118
    · have hs : shN (l p) = 2 := by rw [c118]; rfl
      have hsh : shN (l p) < 5 := by omega
      have hln : lnN (shN (l p)) = 4 := by rw [hs]; rfl
      have hP0 : Pg l k p 0 := ⟨by omega, fun i hi => absurd hi (Nat.not_lt_zero i)⟩
      rw [if_pos c118, nI_1]
      obtain ⟨x0, q0, u0, e0, h0⟩ := sk hl hpk (by omega) u
      rw [show fX4_readsKind xl (nI k) (nI (p + 1)) u = some (x0, nI q0, u0) from e0]
      simp only [bsm]
      rcases h0 with ⟨rfl, rfl, hP1, hu0, hv0⟩ | ⟨rfl, hF⟩
      · simp only [i_n1, bsm]
        obtain ⟨x1, q1, u1, e1, h1⟩ := sn hl (s := 1) (w := 1) (o := 1) hpk hsh (by omega) (by omega) hP1 (by omega) (by rw [hs]; decide) u0
        rw [show fX4_readsNumber 1 1 xl (nI k) (nI (p + 1 + 1)) u0 = some (x1, nI q1, u1) from e1]
        simp only [bsm]
        rcases h1 with ⟨rfl, rfl, hP2, hu1, hv1⟩ | ⟨rfl, hF⟩
        · simp only [i_n1, bsm]
          obtain ⟨x2, q2, u2, e2, h2⟩ := sn hl (s := 2) (w := 1) (o := 2) hpk hsh (by omega) (by omega) hP2 (by omega) (by rw [hs]; decide) u1
          rw [show fX4_readsNumber 2 1 xl (nI k) (nI (p + 1 + (1 + 1))) u1 = some (x2, nI q2, u2) from e2]
          simp only [bsm]
          rcases h2 with ⟨rfl, rfl, hP3, hu2, hv2⟩ | ⟨rfl, hF⟩
          · simp only [i_n1, bsm]
            obtain ⟨c, ec, hce⟩ := se hl hpk hsh hP3 (o := 3) (by omega)
            rw [show fX4_here xl (nI k) (nI (p + 1 + (2 + 1))) = some c from ec]
            simp only [bsm]
            rcases hce with ⟨rfl, hVs⟩ | ⟨hne, hF⟩
            · rw [if_pos rfl, nI_1]
              exact ⟨1, _, _, rfl, Or.inl ⟨rfl, hVs, fun q => absurd q (by omega), fun q => absurd q (by omega), fun q => absurd q (by omega), fun q => absurd q (by omega), fun q => absurd q (by omega), fun _ => ⟨((hv2 0 (by omega)).trans ((hv1 0 (by omega)).trans hu0)), ((hv2 1 (by omega)).trans hu1), hu2⟩, fun q => absurd q (by omega)⟩⟩
            · rw [if_neg hne]
              exact ⟨0, _, _, rfl, Or.inr ⟨rfl, hF⟩⟩
          · simp only [if_true, bsm]
            exact ⟨0, _, _, rfl, Or.inr ⟨rfl, hF⟩⟩
        · simp only [if_true, bsm]
          exact ⟨0, _, _, rfl, Or.inr ⟨rfl, hF⟩⟩
      · simp only [if_true, bsm]
        exact ⟨0, _, _, rfl, Or.inr ⟨rfl, hF⟩⟩
    rw [if_neg c118]
    rw [if_eqn (v := 120) (k := 120) rfl (by omega) (by omega)]
    by_cases c120 : l p = 120
    · have hs : shN (l p) = 4 := by rw [c120]; rfl
      have hsh : shN (l p) < 5 := by omega
      have hln : lnN (shN (l p)) = 2 := by rw [hs]; rfl
      have hP0 : Pg l k p 0 := ⟨by omega, fun i hi => absurd hi (Nat.not_lt_zero i)⟩
      rw [if_pos c120, nI_1]
      obtain ⟨x0, q0, u0, e0, h0⟩ := sn hl (s := 0) (w := 1) (o := 0) hpk hsh (by omega) (by omega) hP0 (by omega) (by rw [hs]; decide) u
      rw [show fX4_readsNumber 0 1 xl (nI k) (nI (p + 1)) u = some (x0, nI q0, u0) from e0]
      simp only [bsm]
      rcases h0 with ⟨rfl, rfl, hP1, hu0, hv0⟩ | ⟨rfl, hF⟩
      · simp only [i_n1, bsm]
        obtain ⟨c, ec, hce⟩ := se hl hpk hsh hP1 (o := 1) (by omega)
        rw [show fX4_here xl (nI k) (nI (p + 1 + (0 + 1))) = some c from ec]
        simp only [bsm]
        rcases hce with ⟨rfl, hVs⟩ | ⟨hne, hF⟩
        · rw [if_pos rfl, nI_1]
          exact ⟨1, _, _, rfl, Or.inl ⟨rfl, hVs, fun q => absurd q (by omega), fun q => absurd q (by omega), fun q => absurd q (by omega), fun q => absurd q (by omega), fun q => absurd q (by omega), fun q => absurd q (by omega), fun _ => hu0⟩⟩
        · rw [if_neg hne]
          exact ⟨0, _, _, rfl, Or.inr ⟨rfl, hF⟩⟩
      · simp only [if_true, bsm]
        exact ⟨0, _, _, rfl, Or.inr ⟨rfl, hF⟩⟩
    rw [if_neg c120]
    rw [hend]
    refine ⟨0, p, u, rfl, Or.inr ⟨rfl, Or.inl ⟨rfl, Or.inr ⟨hpk, ?_⟩⟩⟩⟩
    unfold shN
    rw [if_neg (by omega), if_neg (by omega), if_neg (by omega), if_neg (by omega), if_neg (by omega)]
  · rw [if_neg hpk, if_neg (show ¬ (-1 : Int32) = 99 by decide), if_neg (show ¬ (-1 : Int32) = 100 by decide), if_neg (show ¬ (-1 : Int32) = 101 by decide), if_neg (show ¬ (-1 : Int32) = 104 by decide), if_neg (show ¬ (-1 : Int32) = 116 by decide), if_neg (show ¬ (-1 : Int32) = 118 by decide), if_neg (show ¬ (-1 : Int32) = 120 by decide), hend]
    exact ⟨0, p, u, rfl, Or.inr ⟨rfl, Or.inl ⟨rfl, Or.inl (by omega)⟩⟩⟩
end TXS
