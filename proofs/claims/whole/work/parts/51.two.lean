theorem bx_lead {g : LandT} {r : Nat → Int32} {L : LdN} (hG : GR g L) (hR : RR r L) (hV : LdV L) (hT : eT L ≤ 999) {a b n p q : Nat} (ha : a < 7) (hb : b < 7) (hn : n ≤ 60) (hp : p ≤ 1) (hq : q ≤ 1) : ∃ d, (∀ m, ∃ g', fX3_gainBehind (nI n) (nI a) (nI p) (nI b) (nI q) g m = some (d, g')) ∧ ∀ m, ∃ r', fX4_leadBy (nI a) (nI p) (nI b) (nI q) (nI n) r m = some (d, r') := by
  have hV1 := lv_sC (k := a) (v := (eC L a + p) % 16) hV (Nat.mod_lt _ (by omega))
  have hV2 := lv_sC (k := b) (v := (eC (sC L a ((eC L a + p) % 16)) b + q) % 16) hV1 (Nat.mod_lt _ (by omega))
  have hC1 := hV.2.2.2.1 a
  have hC2 := hV1.2.2.2.1 b
  have hV3 := hrsL_V hV2 n (show eT L + n ≤ 4000 by omega)
  obtain ⟨g1, p1, hG1⟩ := gx_goOn hG (t := a) (w := p) ha (by omega) hV
  obtain ⟨g2, p2, hG2⟩ := gx_goOn hG1 (t := b) (w := q) hb (by omega) hV1
  obtain ⟨g3, p3, hG3⟩ := gx_pass hG2 hV2 (n := n) (by omega) (show eT L + n ≤ 4000 by omega)
  have hr : ∀ m, ∃ r3, RR r3 (hrsL (sC (sC L a ((eC L a + p) % 16)) b ((eC (sC L a ((eC L a + p) % 16)) b + q) % 16)) n) ∧ ∃ x1, fX4_copies r m = some x1 ∧ fX4_hoursOn (nI n) (upd (upd x1 (34 + 3 * a) (irem ((x1 (34 + 3 * a)) + nI p) 16)) (34 + 3 * b) (irem (((upd x1 (34 + 3 * a) (irem ((x1 (34 + 3 * a)) + nI p) 16)) (34 + 3 * b)) + nI q) 16)) = some r3 := by
    intro m
    obtain ⟨x1, q1, hR1⟩ := rx_copy (r2 := m) hR
    have hR2 := rr_sC (k := a) (v := (eC L a + p) % 16) hR1 ha
    have e1 : irem ((x1 (34 + 3 * a)) + nI p) 16 = nI ((eC L a + p) % 16) := by
      rw [hR1.2.2.2.2.2.2.2.2.2 a ha, nI_add]
      exact irem_n (d := 16) (by omega) (by omega) (by omega)
    have hR3 := rr_sC (k := b) (v := (eC (sC L a ((eC L a + p) % 16)) b + q) % 16) hR2 hb
    have e2 : irem (((upd x1 (34 + 3 * a) (nI ((eC L a + p) % 16))) (34 + 3 * b)) + nI q) 16 = nI ((eC (sC L a ((eC L a + p) % 16)) b + q) % 16) := by
      rw [hR2.2.2.2.2.2.2.2.2.2 b hb, nI_add]
      exact irem_n (d := 16) (by omega) (by omega) (by omega)
    obtain ⟨r3, q2, hR4⟩ := rx_hoursOn hR3 hV2 (n := n) (by omega) (show eT L + n ≤ 4000 by omega)
    refine ⟨r3, hR4, x1, q1, ?_⟩
    rw [e1, e2]
    exact q2
  obtain ⟨r0, hR0, -⟩ := hr r
  obtain ⟨S1, m1, hm1, j1, -, j3, -⟩ := bx_cnt hG3 hR0 hV3 (v := 1) (by omega)
  obtain ⟨S2, m2, hm2, k1, -, k3, -⟩ := bx_cnt hG3 hR0 hV3 (v := 2) (by omega)
  refine ⟨nI m1 - nI m2, fun m => ⟨g3, ?_⟩, fun m => ?_⟩
  · unfold fX3_gainBehind fX3_inMind fX0_copyFrom
    simp only [bsm, p1, p2, p3]
    rw [show fX0_branchesWith 1 g3 = some (nI S1) from j1, show fX0_branchesWith 2 g3 = some (nI S2) from k1]
    simp only [bsm, j3, k3]
  · obtain ⟨r3, hR3, x1, q1, q2⟩ := hr m
    obtain ⟨S1', m1', hm1', i1, i2, i3, i4⟩ := bx_cnt hG3 hR3 hV3 (v := 1) (by omega)
    obtain ⟨S2', m2', hm2', l1, l2, l3, l4⟩ := bx_cnt hG3 hR3 hV3 (v := 2) (by omega)
    have z1 : some (nI S1') = some (nI S1) := i1.symm.trans j1
    have z2 : some (nI S2') = some (nI S2) := l1.symm.trans k1
    rw [Option.some.inj z1] at i2 i3 i4
    rw [Option.some.inj z2] at l2 l3 l4
    have z3 : nI m1' = nI m1 := Option.some.inj (i3.symm.trans j3)
    have z4 : nI m2' = nI m2 := Option.some.inj (l3.symm.trans k3)
    rw [z3] at i4
    rw [z4] at l4
    refine ⟨r3, ?_⟩
    unfold fX4_leadBy
    rw [q1, of_2, of_2]
    simp only [bsm]
    rw [if_ob (show 34 + 3 * a < 53 by omega) (by omega), if_ob (show 34 + 3 * a < 53 by omega) (by omega), if_ob (show 34 + 3 * b < 53 by omega) (by omega), if_ob (show 34 + 3 * b < 53 by omega) (by omega), cl (by omega), cl (by omega), q2]
    simp only [bsm]
    rw [show fX4_branchesIn 1 r3 = some (nI S1) from i2, show fX4_branchesIn 2 r3 = some (nI S2) from l2]
    simp only [bsm, i4, l4]
theorem lp_3 {σ ρ : Type} {body : σ → Option (σ ⊕ ρ)} {s0 s1 s2 : σ} {R : ρ} (h0 : body s0 = some (.inl s1)) (h1 : body s1 = some (.inl s2)) (h2 : body s2 = some (.inr R)) : lp body fu s0 = some R := by
  obtain ⟨x, q1, rfl⟩ := lp_rel (body := body) (s0 := s0) (fun i s => (i = 0 ∧ s = s0) ∨ (i = 1 ∧ s = s1) ∨ (i = 2 ∧ s = s2)) (fun x => x = R) 2 (by
    rintro i s hi (⟨rfl, rfl⟩ | ⟨rfl, rfl⟩ | ⟨rfl, rfl⟩)
    · exact ⟨_, h0, Or.inr (Or.inl ⟨rfl, rfl⟩)⟩
    · exact ⟨_, h1, Or.inr (Or.inr ⟨rfl, rfl⟩)⟩
    · omega) (by
    rintro s (⟨h, -⟩ | ⟨h, -⟩ | ⟨-, rfl⟩)
    · omega
    · omega
    · exact ⟨_, h2, rfl⟩) (by omega) (Or.inl ⟨rfl, rfl⟩)
  exact q1
section TWO
variable (y0 y1 : Nat → Int32)
theorem fp00 : bX3_firstPairAtRest_9 y0 y1 0 0 = if y0 0 < y1 0 then some (.inl 1) else if y0 1 < y0 0 then some (.inl 1) else some (.inr (.inl 0)) := by
  dsimp only [bX3_firstPairAtRest_9]
  rw [if_neg (show ¬ (1 : Int32) < 0 by decide)]
  rw [if_pos (show (0 : Int32) = 0 from rfl), if_neg (show ¬ ob 0 2 by decide), if_neg (show ¬ (1 : Int32) - 0 = 0 by decide), if_pos (show (1 : Int32) - 0 = 1 by decide), if_neg (show ¬ ob 0 2 by decide), if_pos (show (0 : Int32) = 0 from rfl), if_neg (show ¬ ob (1 - 0) 2 by decide), show (1 : Int32) - 0 = 1 by decide, show (0 : Int32) + 1 = 1 by decide, show (10 : Int32) * 0 + 0 = 0 by decide, cl_0, cl_1]
theorem fp01 : bX3_firstPairAtRest_9 y0 y1 0 1 = if y0 1 < y1 1 then some (.inl 2) else if y0 0 < y0 1 then some (.inl 2) else some (.inr (.inl 1)) := by
  dsimp only [bX3_firstPairAtRest_9]
  rw [if_neg (show ¬ (1 : Int32) < 1 by decide)]
  rw [if_pos (show (0 : Int32) = 0 from rfl), if_neg (show ¬ ob 1 2 by decide), if_neg (show ¬ (1 : Int32) - 0 = 0 by decide), if_pos (show (1 : Int32) - 0 = 1 by decide), if_neg (show ¬ ob 1 2 by decide), if_pos (show (0 : Int32) = 0 from rfl), if_neg (show ¬ ob (1 - 1) 2 by decide), show (1 : Int32) - 1 = 0 by decide, show (1 : Int32) + 1 = 2 by decide, show (10 : Int32) * 0 + 1 = 1 by decide, cl_1, cl_0]
theorem fp10 : bX3_firstPairAtRest_9 y0 y1 1 0 = if y1 0 < y0 0 then some (.inl 1) else if y1 1 < y1 0 then some (.inl 1) else some (.inr (.inl 10)) := by
  dsimp only [bX3_firstPairAtRest_9]
  rw [if_neg (show ¬ (1 : Int32) < 0 by decide)]
  rw [if_neg (show ¬ (1 : Int32) = 0 by decide), if_pos (show (1 : Int32) = 1 from rfl), if_neg (show ¬ ob 0 2 by decide), if_pos (show (1 : Int32) - 1 = 0 by decide), if_neg (show ¬ ob 0 2 by decide), if_neg (show ¬ (1 : Int32) = 0 by decide), if_pos (show (1 : Int32) = 1 from rfl), if_neg (show ¬ ob (1 - 0) 2 by decide), show (1 : Int32) - 0 = 1 by decide, show (0 : Int32) + 1 = 1 by decide, show (10 : Int32) * 1 + 0 = 10 by decide, cl_0, cl_1]
theorem fp11 : bX3_firstPairAtRest_9 y0 y1 1 1 = if y1 1 < y0 1 then some (.inl 2) else if y1 0 < y1 1 then some (.inl 2) else some (.inr (.inl 11)) := by
  dsimp only [bX3_firstPairAtRest_9]
  rw [if_neg (show ¬ (1 : Int32) < 1 by decide)]
  rw [if_neg (show ¬ (1 : Int32) = 0 by decide), if_pos (show (1 : Int32) = 1 from rfl), if_neg (show ¬ ob 1 2 by decide), if_pos (show (1 : Int32) - 1 = 0 by decide), if_neg (show ¬ ob 1 2 by decide), if_neg (show ¬ (1 : Int32) = 0 by decide), if_pos (show (1 : Int32) = 1 from rfl), if_neg (show ¬ ob (1 - 1) 2 by decide), show (1 : Int32) - 1 = 0 by decide, show (1 : Int32) + 1 = 2 by decide, show (10 : Int32) * 1 + 1 = 11 by decide, cl_1, cl_0]
theorem fp02 : bX3_firstPairAtRest_9 y0 y1 0 2 = some (.inr (.inr ())) := by
  dsimp only [bX3_firstPairAtRest_9]
  rw [if_pos (show (1 : Int32) < 2 by decide)]
theorem fp12 : bX3_firstPairAtRest_9 y0 y1 1 2 = some (.inr (.inr ())) := by
  dsimp only [bX3_firstPairAtRest_9]
  rw [if_pos (show (1 : Int32) < 2 by decide)]
theorem fq0 : bX3_firstPairAtRest_2 y0 y1 0 = Option.bind (lp (bX3_firstPairAtRest_9 y0 y1 0) fu 0) (el (fun v => some (.inr (.inl v))) (fun (_ : Unit) => some (.inl 1))) := by
  dsimp only [bX3_firstPairAtRest_2]
  rw [if_neg (show ¬ (1 : Int32) < 0 by decide), show (0 : Int32) + 1 = 1 by decide]
theorem fq1 : bX3_firstPairAtRest_2 y0 y1 1 = Option.bind (lp (bX3_firstPairAtRest_9 y0 y1 1) fu 0) (el (fun v => some (.inr (.inl v))) (fun (_ : Unit) => some (.inl 2))) := by
  dsimp only [bX3_firstPairAtRest_2]
  rw [if_neg (show ¬ (1 : Int32) < 1 by decide), show (1 : Int32) + 1 = 2 by decide]
theorem fq2 : bX3_firstPairAtRest_2 y0 y1 2 = some (.inr (.inr ())) := by
  dsimp only [bX3_firstPairAtRest_2]
  rw [if_pos (show (1 : Int32) < 2 by decide)]
end TWO
/-- a pair is not at rest -/
def nRest (y0 y1 : Nat → Int32) : Nat → Prop
  | 0 => y0 0 < y1 0 ∨ y0 1 < y0 0
  | 1 => y0 1 < y1 1 ∨ y0 0 < y0 1
  | 2 => y1 0 < y0 0 ∨ y1 1 < y1 0
  | _ => y1 1 < y0 1 ∨ y1 0 < y1 1
theorem if_ort {α : Type} {p q : Prop} [Decidable p] [Decidable q] {x y : α} (h : p ∨ q) : (if p then x else if q then x else y) = x := by
  by_cases h1 : p
  · rw [if_pos h1]
  · rw [if_neg h1, if_pos (h.resolve_left h1)]
theorem if_orf {α : Type} {p q : Prop} [Decidable p] [Decidable q] {x y : α} (h : ¬ (p ∨ q)) : (if p then x else if q then x else y) = y := by
  rw [if_neg (fun z => h (Or.inl z)), if_neg (fun z => h (Or.inr z))]
theorem lp_a {σ ρ : Type} {body : σ → Option (σ ⊕ ρ)} {s0 : σ} {R : ρ} (h0 : body s0 = some (.inr R)) : lp body fu s0 = some R := by
  obtain ⟨x, q1, rfl⟩ := lp_rel (body := body) (s0 := s0) (fun i s => i = 0 ∧ s = s0) (fun x => x = R) 0 (by
    rintro i s hi -
    omega) (by
    rintro s ⟨-, rfl⟩
    exact ⟨_, h0, rfl⟩) (by omega) ⟨rfl, rfl⟩
  exact q1
theorem lp_b {σ ρ : Type} {body : σ → Option (σ ⊕ ρ)} {s0 s1 : σ} {R : ρ} (h0 : body s0 = some (.inl s1)) (h1 : body s1 = some (.inr R)) : lp body fu s0 = some R := by
  obtain ⟨x, q1, rfl⟩ := lp_rel (body := body) (s0 := s0) (fun i s => (i = 0 ∧ s = s0) ∨ (i = 1 ∧ s = s1)) (fun x => x = R) 1 (by
    rintro i s hi (⟨rfl, rfl⟩ | ⟨rfl, rfl⟩)
    · exact ⟨_, h0, Or.inr ⟨rfl, rfl⟩⟩
    · omega) (by
    rintro s (⟨h, -⟩ | ⟨-, rfl⟩)
    · omega
    · exact ⟨_, h1, rfl⟩) (by omega) (Or.inl ⟨rfl, rfl⟩)
  exact q1
def resP (y0 y1 : Nat → Int32) (x : Int32) : Prop := (x = 0 ∧ ¬ nRest y0 y1 0) ∨ (x = 1 ∧ nRest y0 y1 0 ∧ ¬ nRest y0 y1 1) ∨ (x = 10 ∧ nRest y0 y1 0 ∧ nRest y0 y1 1 ∧ ¬ nRest y0 y1 2) ∨ (x = 11 ∧ nRest y0 y1 0 ∧ nRest y0 y1 1 ∧ nRest y0 y1 2 ∧ ¬ nRest y0 y1 3) ∨ (x = -9 ∧ nRest y0 y1 0 ∧ nRest y0 y1 1 ∧ nRest y0 y1 2 ∧ nRest y0 y1 3)
theorem resP_eq {y0 y1 : Nat → Int32} {x x' : Int32} (h : resP y0 y1 x) (h' : resP y0 y1 x') : x = x' := by
  unfold resP at h h'
  rcases h with ⟨rfl, h⟩ | ⟨rfl, h⟩ | ⟨rfl, h⟩ | ⟨rfl, h⟩ | ⟨rfl, h⟩ <;> rcases h' with ⟨rfl, h'⟩ | ⟨rfl, h'⟩ | ⟨rfl, h'⟩ | ⟨rfl, h'⟩ | ⟨rfl, h'⟩ <;> first | rfl | (exfalso; simp_all)
theorem gx_rest (y0 y1 : Nat → Int32) : ∃ x, fX3_firstPairAtRest y0 y1 = some x ∧ resP y0 y1 x := by
  unfold fX3_firstPairAtRest resP
  have b0 := fq0 y0 y1
  have b1 := fq1 y0 y1
  have b2 := fq2 y0 y1
  have g00 := fp00 y0 y1
  have g01 := fp01 y0 y1
  have g10 := fp10 y0 y1
  have g11 := fp11 y0 y1
  by_cases h0 : nRest y0 y1 0
  · rw [if_ort h0] at g00
    by_cases h1 : nRest y0 y1 1
    · rw [if_ort h1] at g01
      rw [lp_3 g00 g01 (fp02 y0 y1), bsm] at b0
      by_cases h2 : nRest y0 y1 2
      · rw [if_ort h2] at g10
        by_cases h3 : nRest y0 y1 3
        · rw [if_ort h3] at g11
          rw [lp_3 g10 g11 (fp12 y0 y1), bsm] at b1
          rw [lp_3 b0 b1 b2]
          exact ⟨_, rfl, Or.inr (Or.inr (Or.inr (Or.inr ⟨rfl, h0, h1, h2, h3⟩)))⟩
        · rw [if_orf h3] at g11
          rw [lp_b g10 g11, bsm] at b1
          rw [lp_b b0 b1]
          exact ⟨_, rfl, Or.inr (Or.inr (Or.inr (Or.inl ⟨rfl, h0, h1, h2, h3⟩)))⟩
      · rw [if_orf h2] at g10
        rw [lp_a g10, bsm] at b1
        rw [lp_b b0 b1]
        exact ⟨_, rfl, Or.inr (Or.inr (Or.inl ⟨rfl, h0, h1, h2⟩))⟩
    · rw [if_orf h1] at g01
      rw [lp_b g00 g01, bsm] at b0
      rw [lp_a b0]
      exact ⟨_, rfl, Or.inr (Or.inl ⟨rfl, h0, h1⟩)⟩
  · rw [if_orf h0] at g00
    rw [lp_a g00, bsm] at b0
    rw [lp_a b0]
    exact ⟨_, rfl, Or.inl ⟨rfl, h0⟩⟩

theorem rx_two {r m xe : Nat → Int32} {f0 f1 : Nat → Int32} {a b n : Int32} (h00 : ∀ m, ∃ r', fX4_leadBy a (nI 0) b (nI 0) n r m = some (f0 0, r')) (h01 : ∀ m, ∃ r', fX4_leadBy a (nI 0) b (nI 1) n r m = some (f0 1, r')) (h10 : ∀ m, ∃ r', fX4_leadBy a (nI 1) b (nI 0) n r m = some (f1 0, r')) (h11 : ∀ m, ∃ r', fX4_leadBy a (nI 1) b (nI 1) n r m = some (f1 1, r')) : ∃ o, lp (bX4_two_49 a b n r xe) fu (0, m) = some o ∧ ((∃ x r', o = .inl (x, r', xe) ∧ resP f0 f1 x) ∨ (∃ r', o = .inr r' ∧ resP f0 f1 (-9))) := by
  refine lp_ex (body := bX4_two_49 a b n r xe) (s0 := (0, m)) (fun i s => s.1 = nI i ∧ ∀ j, j < i → nRest f0 f1 j) (fun o => (∃ x r', o = .inl (x, r', xe) ∧ resP f0 f1 x) ∨ (∃ r', o = .inr r' ∧ resP f0 f1 (-9))) 4 (by omega) ?_ ⟨rfl, fun j hj => absurd hj (Nat.not_lt_zero j)⟩
  rintro i ⟨z1, z2⟩ hi ⟨e1, hA⟩
  dsimp only at e1
  subst e1
  by_cases h : i = 4
  · subst h
    dsimp only [bX4_two_49]
    rw [if_pos (show (4 : Int32) ≤ nI 4 by decide)]
    exact Or.inr ⟨_, rfl, Or.inr ⟨_, rfl, Or.inr (Or.inr (Or.inr (Or.inr ⟨rfl, hA 0 (by omega), hA 1 (by omega), hA 2 (by omega), hA 3 (by omega)⟩)))⟩⟩
  · have hi' : i = 0 ∨ i = 1 ∨ i = 2 ∨ i = 3 := by omega
    rcases hi' with rfl | rfl | rfl | rfl
    · obtain ⟨r1, k1⟩ := h00 z2
      obtain ⟨r2, k2⟩ := h10 r1
      obtain ⟨r3, k3⟩ := h01 r2
      dsimp only [bX4_two_49]
      rw [if_neg (show ¬ (4 : Int32) ≤ nI 0 by decide), show nI 0 / 2 = nI 0 by decide, show irem (nI 0) 2 = nI 0 by decide, show (1 : Int32) - nI 0 = nI 1 by decide, k1]
      simp only [bsm, k2, nI_1]
      by_cases c1 : f0 0 < f1 0
      · have hy : nRest f0 f1 0 := Or.inl c1
        rw [if_pos c1]
        exact Or.inl ⟨by omega, _, rfl, rfl, fun j hj => by
            rcases (show j = 0 ∨ j < 0 by omega) with rfl | h
            · exact hy
            · exact hA j h⟩
      · rw [if_neg c1, k3]
        simp only [bsm]
        by_cases c2 : f0 1 < f0 0
        · have hy : nRest f0 f1 0 := Or.inr c2
          rw [if_pos c2]
          exact Or.inl ⟨by omega, _, rfl, rfl, fun j hj => by
            rcases (show j = 0 ∨ j < 0 by omega) with rfl | h
            · exact hy
            · exact hA j h⟩
        · have hn : ¬ nRest f0 f1 0 := fun z => z.elim c1 c2
          rw [if_neg c2]
          exact Or.inr ⟨_, rfl, Or.inl ⟨0, _, rfl, Or.inl ⟨rfl, hn⟩⟩⟩
    · obtain ⟨r1, k1⟩ := h01 z2
      obtain ⟨r2, k2⟩ := h11 r1
      obtain ⟨r3, k3⟩ := h00 r2
      dsimp only [bX4_two_49]
      rw [if_neg (show ¬ (4 : Int32) ≤ nI 1 by decide), show nI 1 / 2 = nI 0 by decide, show irem (nI 1) 2 = nI 1 by decide, show (1 : Int32) - nI 0 = nI 1 by decide, show (1 : Int32) - nI 1 = nI 0 by decide, k1]
      simp only [bsm, k2, nI_1]
      by_cases c1 : f0 1 < f1 1
      · have hy : nRest f0 f1 1 := Or.inl c1
        rw [if_pos c1]
        exact Or.inl ⟨by omega, _, rfl, rfl, fun j hj => by
            rcases (show j = 1 ∨ j < 1 by omega) with rfl | h
            · exact hy
            · exact hA j h⟩
      · rw [if_neg c1, k3]
        simp only [bsm]
        by_cases c2 : f0 0 < f0 1
        · have hy : nRest f0 f1 1 := Or.inr c2
          rw [if_pos c2]
          exact Or.inl ⟨by omega, _, rfl, rfl, fun j hj => by
            rcases (show j = 1 ∨ j < 1 by omega) with rfl | h
            · exact hy
            · exact hA j h⟩
        · have hn : ¬ nRest f0 f1 1 := fun z => z.elim c1 c2
          rw [if_neg c2]
          exact Or.inr ⟨_, rfl, Or.inl ⟨1, _, rfl, Or.inr (Or.inl ⟨rfl, hA 0 (by omega), hn⟩)⟩⟩
    · obtain ⟨r1, k1⟩ := h10 z2
      obtain ⟨r2, k2⟩ := h00 r1
      obtain ⟨r3, k3⟩ := h11 r2
      dsimp only [bX4_two_49]
      rw [if_neg (show ¬ (4 : Int32) ≤ nI 2 by decide), show nI 2 / 2 = nI 1 by decide, show irem (nI 2) 2 = nI 0 by decide, show (1 : Int32) - nI 1 = nI 0 by decide, show (1 : Int32) - nI 0 = nI 1 by decide, k1]
      simp only [bsm, k2, nI_1]
      by_cases c1 : f1 0 < f0 0
      · have hy : nRest f0 f1 2 := Or.inl c1
        rw [if_pos c1]
        exact Or.inl ⟨by omega, _, rfl, rfl, fun j hj => by
            rcases (show j = 2 ∨ j < 2 by omega) with rfl | h
            · exact hy
            · exact hA j h⟩
      · rw [if_neg c1, k3]
        simp only [bsm]
        by_cases c2 : f1 1 < f1 0
        · have hy : nRest f0 f1 2 := Or.inr c2
          rw [if_pos c2]
          exact Or.inl ⟨by omega, _, rfl, rfl, fun j hj => by
            rcases (show j = 2 ∨ j < 2 by omega) with rfl | h
            · exact hy
            · exact hA j h⟩
        · have hn : ¬ nRest f0 f1 2 := fun z => z.elim c1 c2
          rw [if_neg c2]
          exact Or.inr ⟨_, rfl, Or.inl ⟨10, _, rfl, Or.inr (Or.inr (Or.inl ⟨rfl, hA 0 (by omega), hA 1 (by omega), hn⟩))⟩⟩
    · obtain ⟨r1, k1⟩ := h11 z2
      obtain ⟨r2, k2⟩ := h01 r1
      obtain ⟨r3, k3⟩ := h10 r2
      dsimp only [bX4_two_49]
      rw [if_neg (show ¬ (4 : Int32) ≤ nI 3 by decide), show nI 3 / 2 = nI 1 by decide, show irem (nI 3) 2 = nI 1 by decide, show (1 : Int32) - nI 1 = nI 0 by decide, k1]
      simp only [bsm, k2, nI_1]
      by_cases c1 : f1 1 < f0 1
      · have hy : nRest f0 f1 3 := Or.inl c1
        rw [if_pos c1]
        exact Or.inl ⟨by omega, _, rfl, rfl, fun j hj => by
            rcases (show j = 3 ∨ j < 3 by omega) with rfl | h
            · exact hy
            · exact hA j h⟩
      · rw [if_neg c1, k3]
        simp only [bsm]
        by_cases c2 : f1 0 < f1 1
        · have hy : nRest f0 f1 3 := Or.inr c2
          rw [if_pos c2]
          exact Or.inl ⟨by omega, _, rfl, rfl, fun j hj => by
            rcases (show j = 3 ∨ j < 3 by omega) with rfl | h
            · exact hy
            · exact hA j h⟩
        · have hn : ¬ nRest f0 f1 3 := fun z => z.elim c1 c2
          rw [if_neg c2]
          exact Or.inr ⟨_, rfl, Or.inl ⟨11, _, rfl, Or.inr (Or.inr (Or.inr (Or.inl ⟨rfl, hA 0 (by omega), hA 1 (by omega), hA 2 (by omega), hn⟩)))⟩⟩
theorem gx_two {g m : LandT} {y0 y1 : Nat → Int32} {a b n d00 d01 d10 d11 : Int32} (h00 : ∀ m, ∃ g', fX3_gainBehind n a 0 b 0 g m = some (d00, g')) (h01 : ∀ m, ∃ g', fX3_gainBehind n a 0 b 1 g m = some (d01, g')) (h10 : ∀ m, ∃ g', fX3_gainBehind n a 1 b 0 g m = some (d10, g')) (h11 : ∀ m, ∃ g', fX3_gainBehind n a 1 b 1 g m = some (d11, g')) : ∃ g', lp (bX3_two_62 a b n g) fu (0, m, y0, y1) = some (g', upd (upd y0 0 d00) 1 d01, upd (upd y1 0 d10) 1 d11) := by
  obtain ⟨g1, k1⟩ := h00 m
  obtain ⟨g2, k2⟩ := h01 g1
  obtain ⟨g3, k3⟩ := h10 g2
  obtain ⟨g4, k4⟩ := h11 g3
  have i0 : lp (bX3_two_71 a b n g 0) fu (0, m, y0, y1) = some (g2, upd (upd y0 0 d00) 1 d01, y1) := by
    refine lp_3 (s1 := (1, g1, upd y0 0 d00, y1)) (s2 := (2, g2, upd (upd y0 0 d00) 1 d01, y1)) ?_ ?_ ?_
    · dsimp only [bX3_two_71]
      rw [if_neg (show ¬ (1 : Int32) < 0 by decide), if_pos (show (0 : Int32) = 0 from rfl), k1]
      simp only [bsm]
      rw [if_neg (show ¬ ob 0 2 by decide), cl_0, show (0 : Int32) + 1 = 1 by decide]
    · dsimp only [bX3_two_71]
      rw [if_neg (show ¬ (1 : Int32) < 1 by decide), if_pos (show (0 : Int32) = 0 from rfl), k2]
      simp only [bsm]
      rw [if_neg (show ¬ ob 1 2 by decide), cl_1, show (1 : Int32) + 1 = 2 by decide]
    · dsimp only [bX3_two_71]
      rw [if_pos (show (1 : Int32) < 2 by decide)]
  have i1 : lp (bX3_two_71 a b n g 1) fu (0, g2, upd (upd y0 0 d00) 1 d01, y1) = some (g4, upd (upd y0 0 d00) 1 d01, upd (upd y1 0 d10) 1 d11) := by
    refine lp_3 (s1 := (1, g3, upd (upd y0 0 d00) 1 d01, upd y1 0 d10)) (s2 := (2, g4, upd (upd y0 0 d00) 1 d01, upd (upd y1 0 d10) 1 d11)) ?_ ?_ ?_
    · dsimp only [bX3_two_71]
      rw [if_neg (show ¬ (1 : Int32) < 0 by decide), if_neg (show ¬ (1 : Int32) = 0 by decide), if_pos (show (1 : Int32) = 1 from rfl), k3]
      simp only [bsm]
      rw [if_neg (show ¬ ob 0 2 by decide), cl_0, show (0 : Int32) + 1 = 1 by decide]
    · dsimp only [bX3_two_71]
      rw [if_neg (show ¬ (1 : Int32) < 1 by decide), if_neg (show ¬ (1 : Int32) = 0 by decide), if_pos (show (1 : Int32) = 1 from rfl), k4]
      simp only [bsm]
      rw [if_neg (show ¬ ob 1 2 by decide), cl_1, show (1 : Int32) + 1 = 2 by decide]
    · dsimp only [bX3_two_71]
      rw [if_pos (show (1 : Int32) < 2 by decide)]
  refine ⟨g4, lp_3 (s1 := (1, g2, upd (upd y0 0 d00) 1 d01, y1)) (s2 := (2, g4, upd (upd y0 0 d00) 1 d01, upd (upd y1 0 d10) 1 d11)) ?_ ?_ ?_⟩
  · dsimp only [bX3_two_62]
    rw [if_neg (show ¬ (1 : Int32) < 0 by decide), i0]
    simp only [bsm]
    rw [show (0 : Int32) + 1 = 1 by decide]
  · dsimp only [bX3_two_62]
    rw [if_neg (show ¬ (1 : Int32) < 1 by decide), i1]
    simp only [bsm]
    rw [show (1 : Int32) + 1 = 2 by decide]
  · dsimp only [bX3_two_62]
    rw [if_pos (show (1 : Int32) < 2 by decide)]
set_option maxHeartbeats 2000000 in
theorem st_two (yn : LandT) (ym : LandT) (yk : LandT) (yl : (Nat → Int32)) (yt : Int32) (yd : Int32) (yu : (Nat → Int32)) (ye : (Nat → Int32)) (yv : (Nat → Int32)) (yo : (Nat → Int64)) (y0 : (Nat → Int32)) (y1 : (Nat → Int32)) (yc : Int32) (yh : Int32) (xs : (Nat → Int32)) (xm : (Nat → Int32)) (xi : (Nat → Int32)) (xw : (Nat → Int32)) (xh : Int32) (xl : (Nat → Int32)) (xr : (Nat → Int32)) (xe : (Nat → Int32)) (xn : Int32) (xo : Int32) (xp : Int32) (xu : (Nat → Int32)) (xd : Int32) (v1 : Int32) (v2 : Int32) (v3 : Int32) (hI : Inv yn yk yl yt yu ye yc yh xs xi xh xl xr xe xn xo) : ∃ (ra : Int32 × LandT × (Nat → Int32) × (Nat → Int32) × (Nat → Int32)) (rb : Int32 × (Nat → Int32) × (Nat → Int32)), fX3_two v1 v2 v3 yn ym ye y0 y1 = some ra ∧ fX4_two v1 v2 v3 xs xm xe = some rb ∧ ra.1 = rb.1 ∧ Inv yn yk yl yt yu ra.2.2.1 yc yh xs xi xh xl xr rb.2.2 xn xo := by
  obtain ⟨⟨L, hS, hG, hR⟩, h2, h3, h4, h5⟩ := id hI
  have hV := hS.1
  have hT := hS.2
  have hN := hV.2.2.2.2.2.2.1
  unfold fX3_two fX4_two
  rcases cs_thing hG hR hN v1 with ⟨ea0, eb0⟩ | ⟨a, ha, rfl, ea0, eb0⟩
  · obtain ⟨u, w, q1, q2, q3⟩ := rf h5 (c := -1) (k := 1) (by omega) rfl
    simp only [ea0, eb0, Option.bind_some, if_true, i_n1, i_m1, i_m2, i_m4, i_m6]
    rw [q1, q2]
    exact ⟨_, _, rfl, rfl, rfl, inv_ref hI q3⟩
  rcases cs_thing hG hR hN v2 with ⟨ea1, eb1⟩ | ⟨b, hb, rfl, ea1, eb1⟩
  · obtain ⟨u, w, q1, q2, q3⟩ := rf h5 (c := -1) (k := 1) (by omega) rfl
    simp only [ea0, eb0, ea1, eb1, Option.bind_some, if_true, i_n1, i_m1, i_m2, i_m4, i_m6]
    rw [q1, q2]
    exact ⟨_, _, rfl, rfl, rfl, inv_ref hI q3⟩
  by_cases hab : nI a = nI b
  · obtain ⟨u, w, q1, q2, q3⟩ := rf h5 (c := -1) (k := 1) (by omega) rfl
    simp only [ea0, eb0, ea1, eb1, bsm, if_true, i_n1, i_m1, i_m2, i_m4, i_m6, if_pos hab]
    rw [q1, q2]
    exact ⟨_, _, rfl, rfl, rfl, inv_ref hI q3⟩
  rcases cs_rng v3 (b := 30) (by omega) with ⟨c, k', hk', hc, hc0, ea2, eb2, ec2⟩ | ⟨n, hn, rfl, ea2, eb2⟩
  · obtain ⟨u, w, q1, q2, q3⟩ := rf h5 (c := c) (k := k') hk' hc
    simp only [ea0, eb0, ea1, eb1, if_neg hab, show fX3_isWithin v3 0 30 = some 0 from ea2, show fX4_wrongBy v3 0 30 = some c from eb2, ec2, Option.bind_some, if_true, i_n1, i_m1, i_m2, i_m4, i_m6, if_neg hc0]
    rw [q1, q2]
    exact ⟨_, _, rfl, rfl, rfl, inv_ref hI q3⟩
  obtain ⟨d00, j00, k00⟩ := bx_lead hG hR hV hT (a := a) (b := b) (n := n) (p := 0) (q := 0) (by omega) (by omega) (by omega) (by omega) (by omega)
  obtain ⟨d01, j01, k01⟩ := bx_lead hG hR hV hT (a := a) (b := b) (n := n) (p := 0) (q := 1) (by omega) (by omega) (by omega) (by omega) (by omega)
  obtain ⟨d10, j10, k10⟩ := bx_lead hG hR hV hT (a := a) (b := b) (n := n) (p := 1) (q := 0) (by omega) (by omega) (by omega) (by omega) (by omega)
  obtain ⟨d11, j11, k11⟩ := bx_lead hG hR hV hT (a := a) (b := b) (n := n) (p := 1) (q := 1) (by omega) (by omega) (by omega) (by omega) (by omega)
  obtain ⟨g', p1⟩ := gx_two (m := ym) (y0 := y0) (y1 := y1) j00 j01 j10 j11
  obtain ⟨x, p2, p3⟩ := gx_rest (upd (upd y0 0 d00) 1 d01) (upd (upd y1 0 d10) 1 d11)
  have u00 : upd (upd y0 0 d00) 1 d01 0 = d00 := by rw [pk_un (by omega), pk_us]
  have u01 : upd (upd y0 0 d00) 1 d01 1 = d01 := pk_us
  have u10 : upd (upd y1 0 d10) 1 d11 0 = d10 := by rw [pk_un (by omega), pk_us]
  have u11 : upd (upd y1 0 d10) 1 d11 1 = d11 := pk_us
  obtain ⟨o, p4, p5⟩ := rx_two (m := xm) (xe := xe) (f0 := upd (upd y0 0 d00) 1 d01) (f1 := upd (upd y1 0 d10) 1 d11) (by rw [u00]; exact k00) (by rw [u01]; exact k01) (by rw [u10]; exact k10) (by rw [u11]; exact k11)
  simp only [ea0, eb0, ea1, eb1, if_neg hab, show fX3_isWithin (nI n) 0 30 = some 1 from ea2, show fX4_wrongBy (nI n) 0 30 = some 0 from eb2, bsm, if_true, i_n1, i_m1, i_m2, i_m4, i_m6, if_neg hab, p1, p2, p4]
  rcases p5 with ⟨x', r', rfl, p6⟩ | ⟨r', rfl, p6⟩
  · have e := resP_eq p3 p6
    subst e
    exact ⟨_, _, rfl, rfl, rfl, hI⟩
  · have e := resP_eq p3 p6
    subst e
    exact ⟨_, _, rfl, rfl, rfl, hI⟩
