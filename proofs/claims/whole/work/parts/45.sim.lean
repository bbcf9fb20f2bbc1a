/-! ===== two loops at once ===== -/
theorem lp_sim {σ ρ σ' ρ' : Type} {bA : σ → Option (σ ⊕ ρ)} {bB : σ' → Option (σ' ⊕ ρ')} (R : Nat → σ → σ' → Prop) (Q : ρ → ρ' → Prop) (n : Nat) (hn : n < 1000) (hs : ∀ i a b, i ≤ n → R i a b → (i < n ∧ ∃ a' b', bA a = some (.inl a') ∧ bB b = some (.inl b') ∧ R (i + 1) a' b') ∨ ∃ x y, bA a = some (.inr x) ∧ bB b = some (.inr y) ∧ Q x y) {a : σ} {b : σ'} (h0 : R 0 a b) : ∃ x y, lp bA fu a = some x ∧ lp bB fu b = some y ∧ Q x y := by
  have key : ∀ k i a b, i + k = n → R i a b → ∀ f, k < f → ∃ x y, lp bA f a = some x ∧ lp bB f b = some y ∧ Q x y := by
    intro k
    induction k with
    | zero =>
      intro i a b hi hR f hf
      obtain ⟨f, rfl⟩ : ∃ f', f = f' + 1 := ⟨f - 1, by omega⟩
      rcases hs i a b (by omega) hR with ⟨h, -⟩ | ⟨x, y, h1, h2, h3⟩
      · omega
      · refine ⟨x, y, ?_, ?_, h3⟩
        · show (bA a).bind _ = _
          rw [h1]
          rfl
        · show (bB b).bind _ = _
          rw [h2]
          rfl
    | succ k ih =>
      intro i a b hi hR f hf
      obtain ⟨f, rfl⟩ : ∃ f', f = f' + 1 := ⟨f - 1, by omega⟩
      rcases hs i a b (by omega) hR with ⟨h, a', b', h1, h2, h3⟩ | ⟨x, y, h1, h2, h3⟩
      · obtain ⟨x, y, q1, q2, q3⟩ := ih (i + 1) a' b' (by omega) h3 f (by omega)
        refine ⟨x, y, ?_, ?_, q3⟩
        · show (bA a).bind _ = _
          rw [h1]
          exact q1
        · show (bB b).bind _ = _
          rw [h2]
          exact q2
      · refine ⟨x, y, ?_, ?_, h3⟩
        · show (bA a).bind _ = _
          rw [h1]
          rfl
        · show (bB b).bind _ = _
          rw [h2]
          rfl
  exact key n 0 a b (by omega) h0 fu hn
theorem lp_ex {σ ρ : Type} {body : σ → Option (σ ⊕ ρ)} (I : Nat → σ → Prop) (P : ρ → Prop) (n : Nat) (hn : n < 1000) (hs : ∀ i s, i ≤ n → I i s → (i < n ∧ ∃ s', body s = some (.inl s') ∧ I (i + 1) s') ∨ ∃ R, body s = some (.inr R) ∧ P R) {s0 : σ} (h0 : I 0 s0) : ∃ R, lp body fu s0 = some R ∧ P R := by
  obtain ⟨x, y, h1, -, h3⟩ := lp_sim (bA := body) (bB := body) (a := s0) (b := s0) (fun i a b => a = b ∧ I i a) (fun x _ => P x) n hn (by
    rintro i a b hi ⟨rfl, hI⟩
    rcases hs i a hi hI with ⟨h, s', q1, q2⟩ | ⟨R, q1, q2⟩
    · exact Or.inl ⟨h, s', s', q1, q1, rfl, q2⟩
    · exact Or.inr ⟨R, R, q1, q1, q2⟩) ⟨rfl, h0⟩
  exact ⟨x, h1, h3⟩
theorem hrsL_N (L : LdN) : ∀ k, eN (hrsL L k) = eN L
  | 0 => rfl
  | k + 1 => hrsL_N L k
theorem hv_i {L : LdN} (hV : LdV L) (hT : eT L ≤ 999) {i : Nat} (hi : i ≤ 1000) : LdV (hrsL L i) := hrsL_V hV i (by omega)
theorem gx_p1 {g : LandT} {L : LdN} {i : Nat} (hG : GR g (hrsL L i)) (hV : LdV L) (hT : eT L ≤ 999) (hi : i ≤ 1000) : ∃ g', fX0_passHours 1 g = some g' ∧ GR g' (hrsL L (i + 1)) := gx_pass hG (hv_i hV hT hi) (n := 1) (by omega) (by rw [hrsL_T]; omega)
theorem rx_p1 {r : Nat → Int32} {L : LdN} {i : Nat} (hR : RR r (hrsL L i)) (hV : LdV L) (hT : eT L ≤ 999) (hi : i ≤ 1000) : ∃ r', fX4_hour r = some r' ∧ RR r' (hrsL L (i + 1)) := rx_hour hR (hv_i hV hT hi) (by rw [hrsL_T]; omega)
theorem tb_if (c : Bool) (k t : Nat) (h : ¬ t = k) : (if c = true then 2 ^ k else 0).testBit t = false := by
  cases c with
  | false => exact Nat.zero_testBit t
  | true =>
    rw [if_pos rfl]
    exact Nat.testBit_two_pow_of_ne (fun q => h q.symm)
theorem sgtN_bit (L : LdN) (b : Nat) : ∀ k t, t < k → (sgtN L b k).testBit t = seeB L b t
  | 0, t, h => absurd h (Nat.not_lt_zero t)
  | k + 1, t, h => by
    show (sgtN L b k ||| (if seeB L b k = true then 2 ^ k else 0)).testBit t = _
    rw [Nat.testBit_or]
    by_cases e : t = k
    · subst e
      rw [Nat.testBit_lt_two_pow (sgtN_lt L b t), Bool.false_or]
      cases seeB L b t with
      | false => exact Nat.zero_testBit t
      | true =>
        rw [if_pos rfl]
        exact Nat.testBit_two_pow_self
    · rw [sgtN_bit L b k t (by omega), tb_if _ _ _ e, Bool.or_false]
theorem brsN_bit (L : LdN) (v : Nat) : ∀ k t, t < k → (brsN L v k).testBit t = decide (vrd L t = v)
  | 0, t, h => absurd h (Nat.not_lt_zero t)
  | k + 1, t, h => by
    show (brsN L v k ||| (if vrd L k = v then 2 ^ k else 0)).testBit t = _
    rw [Nat.testBit_or]
    have hc : (if vrd L k = v then 2 ^ k else 0) = (if decide (vrd L k = v) = true then 2 ^ k else 0) := by
      by_cases q : vrd L k = v
      · rw [if_pos q, if_pos (decide_eq_true q)]
      · rw [if_neg q, if_neg (fun z => q (of_decide_eq_true z))]
    rw [hc]
    by_cases e : t = k
    · subst e
      rw [Nat.testBit_lt_two_pow (brsN_lt L v t), Bool.false_or]
      cases decide (vrd L t = v) with
      | false => exact Nat.zero_testBit t
      | true =>
        rw [if_pos rfl]
        exact Nat.testBit_two_pow_self
    · rw [brsN_bit L v k t (by omega), tb_if _ _ _ e, Bool.or_false]
theorem has_see {L : LdN} (hV : LdV L) {b t : Nat} (ht : t < eN L) : fX4_has (nI (sght L b)) (nI t) = some (if seeB L b t = true then 1 else 0) := by
  have hN := hV.2.2.2.2.2.2.1
  have h := sght_lt hV b
  rw [has_eq (by omega) (by omega), sgtN_bit L b (eN L) t ht]
theorem vr_le {L : LdN} (hV : LdV L) (b : Nat) : vrd L b ≤ 2 := vrd_le hV (sght L b)
theorem brs_lt (L : LdN) (v : Nat) : brs L v < 1024 := brsN_lt L v 10
theorem all10 : ∀ S, S < 1024 → (bitsN S 16 = 10 ↔ S = 1023) := by decide +kernel
theorem bit1023 : ∀ b, b < 10 → Nat.testBit 1023 b = true := by decide
theorem ten_iff (L : LdN) (v : Nat) : bitsN (brs L v) 16 = 10 ↔ ∀ b, b < 10 → vrd L b = v := by
  rw [all10 _ (brs_lt L v)]
  constructor
  · intro h b hb
    have h1 := brsN_bit L v 10 b hb
    rw [show brsN L v 10 = 1023 from h, bit1023 b hb] at h1
    exact of_decide_eq_true h1.symm
  · intro h
    apply Nat.eq_of_testBit_eq
    intro i
    by_cases hi : i < 10
    · rw [brsN_bit L v 10 i hi, bit1023 i hi]
      exact decide_eq_true (h i hi)
    · have h2 : (2 : Nat) ^ 10 ≤ 2 ^ i := Nat.pow_le_pow_right (by omega) (by omega)
      have h3 := brs_lt L v
      rw [Nat.testBit_lt_two_pow (Nat.lt_of_lt_of_le h3 h2), Nat.testBit_lt_two_pow (Nat.lt_of_lt_of_le (show 1023 < 2 ^ 10 by omega) h2)]
theorem gx_dif {g : LandT} {L : LdN} (hG : GR g L) (hV : LdV L) {b : Nat} (hb : b < 10) : ∃ x, fX0_differsAbove (nI b) g = some x ∧ (x = -9 ↔ ∀ c, b < c → c < 10 → vrd L c = vrd L b) := by
  unfold fX0_differsAbove
  rw [gx_vfrom hG hV (by omega)]
  obtain ⟨o, h1, h2⟩ := lp_ex (body := bX0_differsAbove_10 g (nI (vrd L b))) (s0 := nI (b + 1)) (fun i s => s = nI (b + 1 + i) ∧ ∀ c, b < c → c < b + 1 + i → vrd L c = vrd L b) (fun o => (∃ c, o = .inl (nI c) ∧ b < c ∧ c < 10 ∧ ¬ vrd L c = vrd L b) ∨ (o = .inr () ∧ ∀ c, b < c → c < 10 → vrd L c = vrd L b)) (9 - b) (by omega) (by
    rintro i s hi ⟨rfl, hA⟩
    dsimp only [bX0_differsAbove_10]
    rw [if_len (u := 10) (a := 10) rfl rfl (by omega) (by omega)]
    by_cases h : 10 ≤ b + 1 + i
    · rw [if_pos h]
      exact Or.inr ⟨_, rfl, Or.inr ⟨rfl, fun c h1 h2 => hA c h1 (by omega)⟩⟩
    · have l1 := vr_le hV (b + 1 + i)
      have l2 := vr_le hV b
      rw [if_neg h, gx_vfrom hG hV (by omega)]
      simp only [Option.bind_some]
      rw [if_eqn rfl (by omega) (by omega), nI_1]
      by_cases h2 : vrd L (b + 1 + i) = vrd L b
      · rw [if_pos h2]
        refine Or.inl ⟨by omega, _, rfl, rfl, fun c h3 h4 => ?_⟩
        by_cases e : c = b + 1 + i
        · rw [e]; exact h2
        · exact hA c h3 (by omega)
      · rw [if_neg h2]
        exact Or.inr ⟨_, rfl, Or.inl ⟨_, rfl, by omega, by omega, h2⟩⟩) ⟨rfl, fun c h1 h2 => by omega⟩
  simp only [Option.bind_some, nI_1]
  rw [h1]
  rcases h2 with ⟨c, rfl, h3, h4, h5⟩ | ⟨rfl, h3⟩
  · refine ⟨nI c, rfl, ?_⟩
    constructor
    · intro q
      have h6 := n_m9 (a := c) (by omega)
      rw [q] at h6
      exact absurd h6 (by decide)
    · intro q
      exact absurd (q c h3 h4) h5
  · exact ⟨-9, rfl, fun _ => h3, fun _ => rfl⟩
theorem nm1 : ¬ (-1 : Int32) = 0 := by decide
theorem nm2 : ¬ (-2 : Int32) = 0 := by decide
theorem nm4 : ¬ (-4 : Int32) = 0 := by decide
theorem nm6 : ¬ (-6 : Int32) = 0 := by decide
theorem i_p0 {α : Type} {x y : α} : (if (0 : Int32) = 0 then x else y) = x := rfl
theorem i_n1 {α : Type} {x y : α} : (if (1 : Int32) = 0 then x else y) = y := rfl
theorem i_m1 {α : Type} {x y : α} : (if (-1 : Int32) = 0 then x else y) = y := rfl
theorem i_m2 {α : Type} {x y : α} : (if (-2 : Int32) = 0 then x else y) = y := rfl
theorem i_m4 {α : Type} {x y : α} : (if (-4 : Int32) = 0 then x else y) = y := rfl
theorem i_m6 {α : Type} {x y : α} : (if (-6 : Int32) = 0 then x else y) = y := rfl
theorem i_b0 {α : Type} {x y : α} (c : Bool) : (if (if c = true then (1 : Int32) else 0) = 0 then x else y) = if c = true then y else x := by
  cases c <;> rfl
theorem i_le {α : Type} {a b : Int32} {x y : α} : (if a ≤ b then x else y) = if b < a then y else x := by
  by_cases h : a ≤ b
  · rw [if_pos h, if_neg (Int32.not_lt.mpr h)]
  · rw [if_neg h, if_pos (Int32.not_le.mp h)]
