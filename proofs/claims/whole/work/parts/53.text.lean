/-! ===== letters: what both sides read ===== -/
def kN (c : Nat) : Nat := if c = 116 then 0 else if c = 115 then 1 else if c = 104 then 2 else if c = 99 then 3 else if c = 98 then 4 else if c = 119 then 5 else 9
def shN (c : Nat) : Nat := if c = 99 ∨ c = 100 then 0 else if c = 101 ∨ c = 104 then 3 else if c = 116 then 1 else if c = 118 then 2 else if c = 120 then 4 else 5
def lnN (s : Nat) : Nat := if s = 0 then 4 else if s = 1 then 5 else if s = 2 then 4 else if s = 3 then 3 else if s = 4 then 2 else 0
def chN (s j : Nat) : Nat := if j + 1 = lnN s then 59 else if (s = 1 ∨ s = 2) ∧ j = 0 then 107 else 48
def dgB (c : Nat) : Bool := decide (48 ≤ c) && decide (c ≤ 57)
def fitc (due c : Nat) : Bool := if due = 48 then dgB c else if due = 107 then decide (kN c < 6) else decide (c = due)
theorem kd_c : ∀ c, c < 256 → fJ0_indexOf_0f7a4 6 (ich (nI c)) = some (if kN c < 6 then nI (kN c) else -1) := by decide +kernel
theorem kd_r : ∀ c, c < 256 → fX4_kindBy (nI c) = some (if kN c < 6 then nI (kN c) else -9) := by decide +kernel
theorem dg_c : ∀ c, c < 256 → fX3_isWithin (nI c - 48) 0 9 = some (if dgB c = true then 1 else 0) := by decide +kernel
theorem dg_r : ∀ c, c < 256 → fX4_isIn (nI c) 48 57 = some (if dgB c = true then 1 else 0) := by decide +kernel
theorem sh_c : ∀ c, c < 256 → fX1_shapeBehind (nI c) = some (shN c) := by decide +kernel
theorem sh_lt : ∀ c, c < 256 → shN c < 6 := by decide +kernel
theorem em_c : ∀ s, s < 6 → fJ0_isEmpty_aae02 s = some (if s = 5 then 1 else 0) := by decide +kernel
theorem ln_c : ∀ s, s < 6 → fJ0_length_8abf5 s = some (nI (lnN s)) := by decide +kernel
theorem ch_c : ∀ s, s < 6 → ∀ j, j < 5 → j < lnN s → fJ0_charAt_5068e s (nI j) = some (nI (chN s j)) := by decide +kernel
theorem ln_le : ∀ s, s < 6 → lnN s ≤ 5 := by decide
theorem ln_2 : ∀ s, s < 5 → 2 ≤ lnN s := by decide
theorem ch_v : ∀ s, s < 6 → ∀ j, j < 5 → chN s j = 48 ∨ chN s j = 107 ∨ chN s j = 59 := by decide
theorem no59d : dgB 59 = false := by decide
theorem no59k : kN 59 = 9 := by decide
theorem no59s : shN 59 = 5 := by decide
theorem fit_59 {s j c : Nat} (hs : s < 6) (hj : j < lnN s) (h : fitc (chN s j) c = true) : c = 59 ↔ j + 1 = lnN s := by
  have hl := ln_le s hs
  unfold fitc at h
  by_cases e : j + 1 = lnN s
  · have hc : chN s j = 59 := by
      unfold chN
      rw [if_pos e]
    rw [hc, if_neg (by omega), if_neg (by omega)] at h
    exact ⟨fun _ => e, fun _ => of_decide_eq_true h⟩
  · refine ⟨fun q => ?_, fun q => absurd q e⟩
    subst q
    exfalso
    have hc : chN s j = 107 ∨ chN s j = 48 := by
      unfold chN
      rw [if_neg e]
      split
      · exact Or.inl rfl
      · exact Or.inr rfl
    rcases hc with hc | hc
    · rw [hc, if_neg (by omega), if_pos rfl, no59k] at h
      exact absurd (of_decide_eq_true h) (by omega)
    · rw [hc, if_pos rfl, no59d] at h
      exact absurd h (by decide)
section TXT
variable {yl xl : Nat → Int32} {l : Nat → Nat} {k : Nat}
/-- both rows hold the letters -/
def LL (yl xl : Nat → Int32) (l : Nat → Nat) (k : Nat) : Prop := k ≤ 96 ∧ ∀ j, j < k → yl j = nI (l j) ∧ xl j = nI (l j) ∧ l j < 256
theorem here_eq (hl : LL yl xl l k) {q : Nat} (hq : q ≤ k) : fX4_here xl (nI k) (nI q) = some (if q < k then nI (l q) else -1) := by
  have hk := hl.1
  unfold fX4_here
  rw [if_len rfl rfl (by omega) (by omega)]
  by_cases h : k ≤ q
  · rw [if_pos h, if_neg (by omega)]
  · rw [if_neg h, if_ob (show q < 96 by omega) (by omega), cl (by omega), (hl.2 q (by omega)).2.1, if_pos (by omega)]
/-- the number that w letters tell -/
def nbN (l : Nat → Nat) (q : Nat) : Nat → Nat
  | 0 => 0
  | i + 1 => 10 * nbN l q i + (l (q + i) - 48)
theorem dgB_iff {c : Nat} : dgB c = true ↔ 48 ≤ c ∧ c ≤ 57 := by
  unfold dgB
  simp
theorem nbN_le {q : Nat} : ∀ i, i ≤ 2 → (∀ j, j < i → dgB (l (q + j)) = true) → nbN l q i ≤ 99
  | 0, _, _ => Nat.zero_le _
  | 1, _, h => by
    have h1 := dgB_iff.mp (h 0 (by omega))
    show 10 * 0 + (l (q + 0) - 48) ≤ 99
    omega
  | 2, _, h => by
    have h1 := dgB_iff.mp (h 0 (by omega))
    have h2 := dgB_iff.mp (h 1 (by omega))
    show 10 * (10 * 0 + (l (q + 0) - 48)) + (l (q + 1) - 48) ≤ 99
    omega
  | i + 3, h, _ => by omega
theorem rd_num (hl : LL yl xl l k) {s w q : Nat} (hs : s < 3) (hw : w ≤ 2) (hq : q ≤ k) (u : Nat → Int32) : ∃ x q' u', fX4_readsNumber (nI s) (nI w) xl (nI k) (nI q) u = some (x, nI q', u') ∧ ((x = 1 ∧ q' = q + w ∧ q' ≤ k ∧ (∀ j, j < w → dgB (l (q + j)) = true) ∧ u' s = nI (nbN l q w) ∧ ∀ j, j ≠ s → u' j = u j) ∨ (x = 0 ∧ q ≤ q' ∧ q' < q + w ∧ q' ≤ k ∧ (∀ j, j < q' - q → dgB (l (q + j)) = true) ∧ (q' = k ∨ (q' < k ∧ dgB (l q') = false)))) := by
  have hk := hl.1
  unfold fX4_readsNumber
  rw [if_ob hs (by omega), cl (by omega)]
  obtain ⟨o, h1, h2⟩ := lp_ex (body := bX4_readsNumber_9 (nI s) (nI w) xl (nI k)) (s0 := (0, nI q, upd u s 0)) (fun i a => a.1 = nI i ∧ a.2.1 = nI (q + i) ∧ q + i ≤ k ∧ i ≤ w ∧ (∀ j, j < i → dgB (l (q + j)) = true) ∧ a.2.2 s = nI (nbN l q i) ∧ ∀ j, j ≠ s → a.2.2 j = u j) (fun o => (∃ q' u', o = .inr (nI q', u') ∧ q' = q + w ∧ q' ≤ k ∧ (∀ j, j < w → dgB (l (q + j)) = true) ∧ u' s = nI (nbN l q w) ∧ ∀ j, j ≠ s → u' j = u j) ∨ (∃ q' u', o = .inl (0, nI q', u') ∧ q ≤ q' ∧ q' < q + w ∧ q' ≤ k ∧ (∀ j, j < q' - q → dgB (l (q + j)) = true) ∧ (q' = k ∨ (q' < k ∧ dgB (l q') = false)))) w (by omega) (by
    rintro i ⟨a1, a2, a3⟩ hi ⟨e1, e2, e3, e4, e5, e6, e7⟩
    dsimp only at e1 e2 e6 e7
    subst e1; subst e2
    dsimp only [bX4_readsNumber_9]
    rw [if_len rfl rfl (by omega) (by omega)]
    by_cases h : w ≤ i
    · have : i = w := by omega
      subst this
      rw [if_pos h]
      exact Or.inr ⟨_, rfl, Or.inl ⟨_, _, rfl, rfl, e3, e5, e6, e7⟩⟩
    · rw [if_neg h, here_eq hl e3]
      simp only [bsm]
      by_cases h2 : q + i < k
      · have hc := (hl.2 (q + i) h2).2.2
        rw [if_pos h2, dg_r _ hc]
        simp only [bsm, i_b0]
        by_cases h3 : dgB (l (q + i)) = true
        · have h4 := dgB_iff.mp h3
          have h5 := nbN_le (l := l) (q := q) i (by omega) e5
          rw [if_pos h3, if_ob hs (by omega), if_ob hs (by omega), cl (show s < 2 ^ 31 by omega), e6, show (10 : Int32) * nI (nbN l q i) = nI (10 * nbN l q i) from pk_mul 10 _, nI_add, show nI (10 * nbN l q i + l (q + i)) - 48 = nI (10 * nbN l q i + l (q + i) - 48) from pk_sub (b := 48) (by omega), nI_1, nI_1]
          refine Or.inl ⟨by omega, _, rfl, rfl, rfl, by omega, by omega, fun j hj => ?_, ?_, fun j hj => (pk_un hj).trans (e7 j hj)⟩
          · by_cases e : j = i
            · rw [e]; exact h3
            · exact e5 j (by omega)
          · refine pk_us.trans ?_
            show nI (10 * nbN l q i + l (q + i) - 48) = nI (10 * nbN l q i + (l (q + i) - 48))
            rw [show 10 * nbN l q i + l (q + i) - 48 = 10 * nbN l q i + (l (q + i) - 48) by omega]
        · rw [if_neg h3]
          exact Or.inr ⟨_, rfl, Or.inr ⟨q + i, a3, rfl, by omega, by omega, e3, fun j hj => e5 j (by omega), Or.inr ⟨h2, by cases hh : dgB (l (q + i)) with
            | false => rfl
            | true => exact absurd hh h3⟩⟩⟩
      · rw [if_neg h2, show fX4_isIn (-1) 48 57 = some 0 from rfl]
        simp only [bsm, if_true]
        exact Or.inr ⟨_, rfl, Or.inr ⟨q + i, a3, rfl, by omega, by omega, e3, fun j hj => e5 j (by omega), Or.inl (by omega)⟩⟩) ⟨rfl, rfl, hq, Nat.zero_le _, fun j hj => absurd hj (Nat.not_lt_zero j), pk_us, fun j hj => pk_un hj⟩
  rw [h1]
  rcases h2 with ⟨q', u', rfl, h3⟩ | ⟨q', u', rfl, h3⟩
  · exact ⟨1, q', u', rfl, Or.inl ⟨rfl, h3⟩⟩
  · exact ⟨0, q', u', rfl, Or.inr ⟨rfl, h3⟩⟩
theorem rd_kind (hl : LL yl xl l k) {q : Nat} (hq : q ≤ k) (u : Nat → Int32) : ∃ x q' u', fX4_readsKind xl (nI k) (nI q) u = some (x, nI q', u') ∧ ((x = 1 ∧ q' = q + 1 ∧ q < k ∧ kN (l q) < 6 ∧ u' 0 = nI (kN (l q)) ∧ ∀ j, j ≠ 0 → u' j = u j) ∨ (x = 0 ∧ q' = q ∧ (q = k ∨ (q < k ∧ ¬ kN (l q) < 6)))) := by
  have hk := hl.1
  unfold fX4_readsKind
  rw [here_eq hl hq]
  simp only [bsm]
  by_cases h2 : q < k
  · have hc := (hl.2 q h2).2.2
    rw [if_pos h2, kd_r _ hc]
    simp only [bsm, cl_0, pk_us]
    by_cases h3 : kN (l q) < 6
    · rw [if_pos h3, if_pos (nI_pos' (by omega)), bsm, if_neg (nI_pos (n := kN (l q)) (by omega)), nI_1]
      exact ⟨1, q + 1, _, rfl, Or.inl ⟨rfl, rfl, h2, h3, pk_us, fun j hj => pk_un hj⟩⟩
    · rw [if_neg h3, if_neg (show ¬ (0 : Int32) ≤ -9 by decide), bsm, if_pos (show (-9 : Int32) < 0 by decide)]
      rw [show nI q + 0 = nI q from nI_add q 0]
      exact ⟨0, q, _, rfl, Or.inr ⟨rfl, rfl, Or.inr ⟨h2, h3⟩⟩⟩
  · rw [if_neg h2, show fX4_kindBy (-1) = some (-9) from rfl]
    simp only [bsm, cl_0, pk_us]
    rw [if_neg (show ¬ (0 : Int32) ≤ -9 by decide), bsm, if_pos (show (-9 : Int32) < 0 by decide)]
    rw [show nI q + 0 = nI q from nI_add q 0]
    exact ⟨0, q, _, rfl, Or.inr ⟨rfl, rfl, Or.inl (by omega)⟩⟩
end TXT
