theorem bx_lead {g : LandT} {r : Nat → Int32} {L : LdN} (hG : GR g L) (hR : RR r L) (hV : LdV L) (hT : eT L ≤ 999) {a b n p q : Nat} (ha : a < 7) (hb : b < 7) (hn : n ≤ 60) (hp : p ≤ 1) (hq : q ≤ 1) : ∃ d, (∀ m, ∃ g', fX3_gainBehind (nI n) (nI a) (nI p) (nI b) (nI q) g m = some (d, g')) ∧ ∀ m, ∃ r', fX4_leadBy (nI a) (nI p) (nI b) (nI q) (nI n) r m = some (d, r') := by
  have hV1 := lv_sC (k := a) (v := (eC L a + p) % 16) hV (Nat.mod_lt _ (by omega))
  have hV2 := lv_sC (k := b) (v := (eC (sC L a ((eC L a + p) % 16)) b + q) % 16) hV1 (Nat.mod_lt _ (by omega))
  have hC1 := hV.2.2.2.1 a
  have hC2 := hV1.2.2.2.1 b
  have hV3 := hrsL_V hV2 n (show eT L + n ≤ 4000 by omega)
  obtain ⟨g1, p1, hG1⟩ := gx_goOn hG (t := a) (w := p) ha (by omega) hV
  obtain ⟨g2, p2, hG2⟩ := gx_goOn hG1 (t := b) (w := q) hb (by omega) hV1
  obtain ⟨g3, p3, hG3⟩ := gx_pass hG2 hV2 (n := n) (by omega) (show eT L + n ≤ 4000 by omega)
  have hr : ∀ m, ∃ r3, RR r3 (hrsL (sC (sC L a ((eC L a + p) % 16)) b ((eC (sC L a ((eC L a + p) % 16)) b + q) % 16)) n) ∧ ∃ x1, fX4_copies r m = some x1 ∧ fX4_hoursOn (nI n) (upd (upd x1 (34 + 3 * a) (irem ((x1 (34 + 3 * a)) + nI p) 16)) (34 + 3 * b) (irem (((upd x1 (34 + 3 * a) (irem ((x1 (34 + 3 * a)) + nI p) 16)) (34 + 3 * b)) + nI q) 16)) = some r3 := by
    intro m
    obtain ⟨x1, q1, hR1⟩ := rx_copy (r2 := m) hR
    have hR2 := rr_sC (k := a) (v := (eC L a + p) % 16) hR1 ha
    have e1 : irem ((x1 (34 + 3 * a)) + nI p) 16 = nI ((eC L a + p) % 16) := by
      rw [hR1.2.2.2.2.2.2.2.2.2 a ha, nI_add]
      exact irem_n (d := 16) (by omega) (by omega) (by omega)
    have hR3 := rr_sC (k := b) (v := (eC (sC L a ((eC L a + p) % 16)) b + q) % 16) hR2 hb
    have e2 : irem (((upd x1 (34 + 3 * a) (nI ((eC L a + p) % 16))) (34 + 3 * b)) + nI q) 16 = nI ((eC (sC L a ((eC L a + p) % 16)) b + q) % 16) := by
      rw [hR2.2.2.2.2.2.2.2.2.2 b hb, nI_add]
      exact irem_n (d := 16) (by omega) (by omega) (by omega)
    obtain ⟨r3, q2, hR4⟩ := rx_hoursOn hR3 hV2 (n := n) (by omega) (show eT L + n ≤ 4000 by omega)
    refine ⟨r3, hR4, x1, q1, ?_⟩
    rw [e1, e2]
    exact q2
  obtain ⟨r0, hR0, -⟩ := hr r
  obtain ⟨S1, m1, hm1, j1, -, j3, -⟩ := bx_cnt hG3 hR0 hV3 (v := 1) (by omega)
  obtain ⟨S2, m2, hm2, k1, -, k3, -⟩ := bx_cnt hG3 hR0 hV3 (v := 2) (by omega)
  refine ⟨nI m1 - nI m2, fun m => ⟨g3, ?_⟩, fun m => ?_⟩
  · unfold fX3_gainBehind fX3_inMind fX0_copyFrom
    simp only [bsm, p1, p2, p3]
    rw [show fX0_branchesWith 1 g3 = some (nI S1) from j1, show fX0_branchesWith 2 g3 = some (nI S2) from k1]
    simp only [bsm, j3, k3]
  · obtain ⟨r3, hR3, x1, q1, q2⟩ := hr m
    obtain ⟨S1', m1', hm1', i1, i2, i3, i4⟩ := bx_cnt hG3 hR3 hV3 (v := 1) (by omega)
    obtain ⟨S2', m2', hm2', l1, l2, l3, l4⟩ := bx_cnt hG3 hR3 hV3 (v := 2) (by omega)
    have z1 : some (nI S1') = some (nI S1) := i1.symm.trans j1
    have z2 : some (nI S2') = some (nI S2) := l1.symm.trans k1
    rw [Option.some.inj z1] at i2 i3 i4
    rw [Option.some.inj z2] at l2 l3 l4
    have z3 : nI m1' = nI m1 := Option.some.inj (i3.symm.trans j3)
    have z4 : nI m2' = nI m2 := Option.some.inj (l3.symm.trans k3)
    rw [z3] at i4
    rw [z4] at l4
    refine ⟨r3, ?_⟩
    unfold fX4_leadBy
    rw [q1, of_2, of_2]
    simp only [bsm]
    rw [if_ob (show 34 + 3 * a < 53 by omega) (by omega), if_ob (show 34 + 3 * a < 53 by omega) (by omega), if_ob (show 34 + 3 * b < 53 by omega) (by omega), if_ob (show 34 + 3 * b < 53 by omega) (by omega), cl (by omega), cl (by omega), q2]
    simp only [bsm]
    rw [show fX4_branchesIn 1 r3 = some (nI S1) from i2, show fX4_branchesIn 2 r3 = some (nI S2) from l2]
    simp only [bsm, i4, l4]
theorem lp_3 {σ ρ : Type} {body : σ → Option (σ ⊕ ρ)} {s0 s1 s2 : σ} {R : ρ} (h0 : body s0 = some (.inl s1)) (h1 : body s1 = some (.inl s2)) (h2 : body s2 = some (.inr R)) : lp body fu s0 = some R := by
  obtain ⟨x, q1, rfl⟩ := lp_rel (body := body) (s0 := s0) (fun i s => (i = 0 ∧ s = s0) ∨ (i = 1 ∧ s = s1) ∨ (i = 2 ∧ s = s2)) (fun x => x = R) 2 (by
    rintro i s hi (⟨rfl, rfl⟩ | ⟨rfl, rfl⟩ | ⟨rfl, rfl⟩)
    · exact ⟨_, h0, Or.inr (Or.inl ⟨rfl, rfl⟩)⟩
    · exact ⟨_, h1, Or.inr (Or.inr ⟨rfl, rfl⟩)⟩
    · omega) (by
    rintro s (⟨h, -⟩ | ⟨h, -⟩ | ⟨-, rfl⟩)
    · omega
    · omega
    · exact ⟨_, h2, rfl⟩) (by omega) (Or.inl ⟨rfl, rfl⟩)
  exact q1
section TWO
variable (y0 y1 : Nat → Int32)
theorem fp00 : bX3_firstPairAtRest_9 y0 y1 0 0 = if y0 0 < y1 0 then some (.inl 1) else if y0 1 < y0 0 then some (.inl 1) else some (.inr (.inl 0)) := by
  dsimp only [bX3_firstPairAtRest_9]
  rw [if_neg (show ¬ (1 : Int32) < 0 by decide)]
  rw [if_pos (show (0 : Int32) = 0 from rfl), if_neg (show ¬ ob 0 2 by decide), if_neg (show ¬ (1 : Int32) - 0 = 0 by decide), if_pos (show (1 : Int32) - 0 = 1 by decide), if_neg (show ¬ ob 0 2 by decide), if_pos (show (0 : Int32) = 0 from rfl), if_neg (show ¬ ob (1 - 0) 2 by decide), show (1 : Int32) - 0 = 1 by decide, show (0 : Int32) + 1 = 1 by decide, show (10 : Int32) * 0 + 0 = 0 by decide, cl_0, cl_1]
theorem fp01 : bX3_firstPairAtRest_9 y0 y1 0 1 = if y0 1 < y1 1 then some (.inl 2) else if y0 0 < y0 1 then some (.inl 2) else some (.inr (.inl 1)) := by
  dsimp only [bX3_firstPairAtRest_9]
  rw [if_neg (show ¬ (1 : Int32) < 1 by decide)]
  rw [if_pos (show (0 : Int32) = 0 from rfl), if_neg (show ¬ ob 1 2 by decide), if_neg (show ¬ (1 : Int32) - 0 = 0 by decide), if_pos (show (1 : Int32) - 0 = 1 by decide), if_neg (show ¬ ob 1 2 by decide), if_pos (show (0 : Int32) = 0 from rfl), if_neg (show ¬ ob (1 - 1) 2 by decide), show (1 : Int32) - 1 = 0 by decide, show (1 : Int32) + 1 = 2 by decide, show (10 : Int32) * 0 + 1 = 1 by decide, cl_1, cl_0]
theorem fp10 : bX3_firstPairAtRest_9 y0 y1 1 0 = if y1 0 < y0 0 then some (.inl 1) else if y1 1 < y1 0 then some (.inl 1) else some (.inr (.inl 10)) := by
  dsimp only [bX3_firstPairAtRest_9]
  rw [if_neg (show ¬ (1 : Int32) < 0 by decide)]
  rw [if_neg (show ¬ (1 : Int32) = 0 by decide), if_pos (show (1 : Int32) = 1 from rfl), if_neg (show ¬ ob 0 2 by decide), if_pos (show (1 : Int32) - 1 = 0 by decide), if_neg (show ¬ ob 0 2 by decide), if_neg (show ¬ (1 : Int32) = 0 by decide), if_pos (show (1 : Int32) = 1 from rfl), if_neg (show ¬ ob (1 - 0) 2 by decide), show (1 : Int32) - 0 = 1 by decide, show (0 : Int32) + 1 = 1 by decide, show (10 : Int32) * 1 + 0 = 10 by decide, cl_0, cl_1]
theorem fp11 : bX3_firstPairAtRest_9 y0 y1 1 1 = if y1 1 < y0 1 then some (.inl 2) else if y1 0 < y1 1 then some (.inl 2) else some (.inr (.inl 11)) := by
  dsimp only [bX3_firstPairAtRest_9]
  rw [if_neg (show ¬ (1 : Int32) < 1 by decide)]
  rw [if_neg (show ¬ (1 : Int32) = 0 by decide), if_pos (show (1 : Int32) = 1 from rfl), if_neg (show ¬ ob 1 2 by decide), if_pos (show (1 : Int32) - 1 = 0 by decide), if_neg (show ¬ ob 1 2 by decide), if_neg (show ¬ (1 : Int32) = 0 by decide), if_pos (show (1 : Int32) = 1 from rfl), if_neg (show ¬ ob (1 - 1) 2 by decide), show (1 : Int32) - 1 = 0 by decide, show (1 : Int32) + 1 = 2 by decide, show (10 : Int32) * 1 + 1 = 11 by decide, cl_1, cl_0]
theorem fp02 : bX3_firstPairAtRest_9 y0 y1 0 2 = some (.inr (.inr ())) := by
  dsimp only [bX3_firstPairAtRest_9]
  rw [if_pos (show (1 : Int32) < 2 by decide)]
theorem fp12 : bX3_firstPairAtRest_9 y0 y1 1 2 = some (.inr (.inr ())) := by
  dsimp only [bX3_firstPairAtRest_9]
  rw [if_pos (show (1 : Int32) < 2 by decide)]
theorem fq0 : bX3_firstPairAtRest_2 y0 y1 0 = Option.bind (lp (bX3_firstPairAtRest_9 y0 y1 0) fu 0) (el (fun v => some (.inr (.inl v))) (fun (_ : Unit) => some (.inl 1))) := by
  dsimp only [bX3_firstPairAtRest_2]
  rw [if_neg (show ¬ (1 : Int32) < 0 by decide), show (0 : Int32) + 1 = 1 by decide]
theorem fq1 : bX3_firstPairAtRest_2 y0 y1 1 = Option.bind (lp (bX3_firstPairAtRest_9 y0 y1 1) fu 0) (el (fun v => some (.inr (.inl v))) (fun (_ : Unit) => some (.inl 2))) := by
  dsimp only [bX3_firstPairAtRest_2]
  rw [if_neg (show ¬ (1 : Int32) < 1 by decide), show (1 : Int32) + 1 = 2 by decide]
theorem fq2 : bX3_firstPairAtRest_2 y0 y1 2 = some (.inr (.inr ())) := by
  dsimp only [bX3_firstPairAtRest_2]
  rw [if_pos (show (1 : Int32) < 2 by decide)]
end TWO
/-- a pair is not at rest -/
def nRest (y0 y1 : Nat → Int32) : Nat → Prop
  | 0 => y0 0 < y1 0 ∨ y0 1 < y0 0
  | 1 => y0 1 < y1 1 ∨ y0 0 < y0 1
  | 2 => y1 0 < y0 0 ∨ y1 1 < y1 0
  | _ => y1 1 < y0 1 ∨ y1 0 < y1 1
theorem if_ort {α : Type} {p q : Prop} [Decidable p] [Decidable q] {x y : α} (h : p ∨ q) : (if p then x else if q then x else y) = x := by
  by_cases h1 : p
  · rw [if_pos h1]
  · rw [if_neg h1, if_pos (h.resolve_left h1)]
theorem if_orf {α : Type} {p q : Prop} [Decidable p] [Decidable q] {x y : α} (h : ¬ (p ∨ q)) : (if p then x else if q then x else y) = y := by
  rw [if_neg (fun z => h (Or.inl z)), if_neg (fun z => h (Or.inr z))]
theorem lp_a {σ ρ : Type} {body : σ → Option (σ ⊕ ρ)} {s0 : σ} {R : ρ} (h0 : body s0 = some (.inr R)) : lp body fu s0 = some R := by
  obtain ⟨x, q1, rfl⟩ := lp_rel (body := body) (s0 := s0) (fun i s => i = 0 ∧ s = s0) (fun x => x = R) 0 (by
    rintro i s hi -
    omega) (by
    rintro s ⟨-, rfl⟩
    exact ⟨_, h0, rfl⟩) (by omega) ⟨rfl, rfl⟩
  exact q1
theorem lp_b {σ ρ : Type} {body : σ → Option (σ ⊕ ρ)} {s0 s1 : σ} {R : ρ} (h0 : body s0 = some (.inl s1)) (h1 : body s1 = some (.inr R)) : lp body fu s0 = some R := by
  obtain ⟨x, q1, rfl⟩ := lp_rel (body := body) (s0 := s0) (fun i s => (i = 0 ∧ s = s0) ∨ (i = 1 ∧ s = s1)) (fun x => x = R) 1 (by
    rintro i s hi (⟨rfl, rfl⟩ | ⟨rfl, rfl⟩)
    · exact ⟨_, h0, Or.inr ⟨rfl, rfl⟩⟩
    · omega) (by
    rintro s (⟨h, -⟩ | ⟨-, rfl⟩)
    · omega
    · exact ⟨_, h1, rfl⟩) (by omega) (Or.inl ⟨rfl, rfl⟩)
  exact q1
def resP (y0 y1 : Nat → Int32) (x : Int32) : Prop := (x = 0 ∧ ¬ nRest y0 y1 0) ∨ (x = 1 ∧ nRest y0 y1 0 ∧ ¬ nRest y0 y1 1) ∨ (x = 10 ∧ nRest y0 y1 0 ∧ nRest y0 y1 1 ∧ ¬ nRest y0 y1 2) ∨ (x = 11 ∧ nRest y0 y1 0 ∧ nRest y0 y1 1 ∧ nRest y0 y1 2 ∧ ¬ nRest y0 y1 3) ∨ (x = -9 ∧ nRest y0 y1 0 ∧ nRest y0 y1 1 ∧ nRest y0 y1 2 ∧ nRest y0 y1 3)
theorem resP_eq {y0 y1 : Nat → Int32} {x x' : Int32} (h : resP y0 y1 x) (h' : resP y0 y1 x') : x = x' := by
  unfold resP at h h'
  rcases h with ⟨rfl, h⟩ | ⟨rfl, h⟩ | ⟨rfl, h⟩ | ⟨rfl, h⟩ | ⟨rfl, h⟩ <;> rcases h' with ⟨rfl, h'⟩ | ⟨rfl, h'⟩ | ⟨rfl, h'⟩ | ⟨rfl, h'⟩ | ⟨rfl, h'⟩ <;> first | rfl | (exfalso; simp_all)
theorem gx_rest (y0 y1 : Nat → Int32) : ∃ x, fX3_firstPairAtRest y0 y1 = some x ∧ resP y0 y1 x := by
  unfold fX3_firstPairAtRest resP
  have b0 := fq0 y0 y1
  have b1 := fq1 y0 y1
  have b2 := fq2 y0 y1
  have g00 := fp00 y0 y1
  have g01 := fp01 y0 y1
  have g10 := fp10 y0 y1
  have g11 := fp11 y0 y1
  by_cases h0 : nRest y0 y1 0
  · rw [if_ort h0] at g00
    by_cases h1 : nRest y0 y1 1
    · rw [if_ort h1] at g01
      rw [lp_3 g00 g01 (fp02 y0 y1), bsm] at b0
      by_cases h2 : nRest y0 y1 2
      · rw [if_ort h2] at g10
        by_cases h3 : nRest y0 y1 3
        · rw [if_ort h3] at g11
          rw [lp_3 g10 g11 (fp12 y0 y1), bsm] at b1
          rw [lp_3 b0 b1 b2]
          exact ⟨_, rfl, Or.inr (Or.inr (Or.inr (Or.inr ⟨rfl, h0, h1, h2, h3⟩)))⟩
        · rw [if_orf h3] at g11
          rw [lp_b g10 g11, bsm] at b1
          rw [lp_b b0 b1]
          exact ⟨_, rfl, Or.inr (Or.inr (Or.inr (Or.inl ⟨rfl, h0, h1, h2, h3⟩)))⟩
      · rw [if_orf h2] at g10
        rw [lp_a g10, bsm] at b1
        rw [lp_b b0 b1]
        exact ⟨_, rfl, Or.inr (Or.inr (Or.inl ⟨rfl, h0, h1, h2⟩))⟩
    · rw [if_orf h1] at g01
      rw [lp_b g00 g01, bsm] at b0
      rw [lp_a b0]
      exact ⟨_, rfl, Or.inr (Or.inl ⟨rfl, h0, h1⟩)⟩
  · rw [if_orf h0] at g00
    rw [lp_a g00, bsm] at b0
    rw [lp_a b0]
    exact ⟨_, rfl, Or.inl ⟨rfl, h0⟩⟩

