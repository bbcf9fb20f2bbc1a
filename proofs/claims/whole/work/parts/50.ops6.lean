/-! ===== the steps: windows, two ===== -/
/-- f is the same from b up to e -/
def Seg (f : Nat → Nat) (b e : Nat) : Prop := b < e ∧ ∀ k, b ≤ k → k < e → f k = f b
/-- the longest such, the lowest of them -/
def Lng (f : Nat → Nat) (i lo len : Nat) : Prop := Seg f lo (lo + len) ∧ lo + len ≤ i ∧ ∀ b e, e ≤ i → Seg f b e → e - b ≤ len ∧ (b < lo → e - b < len)
theorem Lng_eq {f : Nat → Nat} {i lo len lo' len' : Nat} (h : Lng f i lo len) (h' : Lng f i lo' len') : lo = lo' ∧ len = len' := by
  obtain ⟨h1, h2, h3⟩ := h
  obtain ⟨k1, k2, k3⟩ := h'
  have a1 := (h3 lo' (lo' + len') k2 k1)
  have a2 := (k3 lo (lo + len) h2 h1)
  have e : len = len' := by omega
  refine ⟨?_, e⟩
  by_cases q : lo < lo'
  · have := a2.2 q
    omega
  · by_cases q2 : lo' < lo
    · have := a1.2 q2
      omega
    · omega
theorem gx_runs {g : LandT} {L : LdN} (hG : GR g L) (hV : LdV L) : ∃ lo len, lo < 10 ∧ len ≤ 10 ∧ Lng (vrd L) 10 lo len ∧ lp (bX3_longestRun_14 g) fu (0, 0, 0, (-9), 0) = some (nI len, nI lo) := by
  obtain ⟨x, h1, lo, len, h2, h3⟩ := lp_rel (body := bX3_longestRun_14 g) (s0 := (0, 0, 0, -9, 0)) (fun i s => s.2.2.2.2 = nI i ∧ ((i = 0 ∧ s = (0, 0, 0, -9, 0)) ∨ ∃ lo len b, s.1 = nI len ∧ s.2.1 = nI lo ∧ b < i ∧ s.2.2.1 = nI (i - b) ∧ s.2.2.2.1 = nI (vrd L b) ∧ Seg (vrd L) b i ∧ (∀ e, e < b → ¬ Seg (vrd L) e i) ∧ Lng (vrd L) i lo len)) (fun x => ∃ lo len, x = (nI len, nI lo) ∧ Lng (vrd L) 10 lo len) 10 (by
    rintro i ⟨s1, s2, s3, s4, s5⟩ hi ⟨e1, e2⟩
    dsimp only at e1 e2
    subst e1
    have hl := vr_le hV i
    dsimp only [bX3_longestRun_14]
    rw [if_len (u := 10) (a := 10) rfl rfl (by omega) (by omega), if_neg (by omega), gx_vfrom hG hV (by omega)]
    simp only [bsm]
    rcases e2 with ⟨rfl, e2⟩ | ⟨lo, len, b, rfl, rfl, hb, rfl, rfl, hS, hM, hL⟩
    · obtain ⟨rfl, rfl, rfl, rfl⟩ : s1 = 0 ∧ s2 = 0 ∧ s3 = 0 ∧ s4 = -9 := by
        refine ⟨congrArg (fun z => z.1) e2, congrArg (fun z => z.2.1) e2, congrArg (fun z => z.2.2.1) e2, congrArg (fun z => z.2.2.2.1) e2⟩
      have hne : ¬ nI (vrd L 0) = -9 := fun q => by
        have h6 := n_m9 (a := vrd L 0) (by omega)
        rw [q] at h6
        exact absurd h6 (by decide)
      rw [if_neg hne]
      simp only [bsm]
      rw [if_neg (show ¬ (1 : Int32) ≤ 0 by decide)]
      refine ⟨_, rfl, rfl, Or.inr ⟨0, 1, 0, rfl, rfl, by omega, rfl, rfl, ⟨by omega, fun k h1 h2 => by rw [show k = 0 by omega]⟩, fun e he => by omega, ⟨⟨by omega, fun k h1 h2 => by rw [show k = 0 by omega]⟩, by omega, fun b e he hs => ⟨by omega, fun q => by omega⟩⟩⟩⟩
    · have hlb := vr_le hV b
      have hlen : len ≤ i := by
        have := hL.2.1
        omega
      have hlo : lo ≤ i := by
        have := hL.2.1
        omega
      rw [if_eqn rfl (by omega) (by omega)]
      by_cases hv : vrd L i = vrd L b
      · have hS' : Seg (vrd L) b (i + 1) := ⟨by omega, fun k h1 h2 => by
          by_cases e : k = i
          · rw [e]; exact hv
          · exact hS.2 k h1 (by omega)⟩
        have hM' : ∀ e, e < b → ¬ Seg (vrd L) e (i + 1) := fun e he q => hM e he ⟨by omega, fun k h1 h2 => q.2 k h1 (by omega)⟩
        rw [if_pos hv]
        simp only [bsm]
        rw [nI_1, show i - b + 1 = i + 1 - b by omega, if_len rfl rfl (by omega) (by omega)]
        by_cases h : i + 1 - b ≤ len
        · rw [if_pos h]
          refine ⟨_, rfl, nI_1 i, Or.inr ⟨lo, len, b, rfl, rfl, by omega, rfl, by rw [hv], hS', hM', hL.1, by have := hL.2.1; omega, fun b2 e2 he2 hs2 => ?_⟩⟩
          by_cases q : e2 ≤ i
          · exact hL.2.2 b2 e2 q hs2
          · have e3 : e2 = i + 1 := by omega
            subst e3
            have hb2 : b ≤ b2 := by
              by_cases z : b ≤ b2
              · exact z
              · exact absurd hs2 (hM' b2 (by omega))
            have hlast := hL.2.2 b i (Nat.le_refl i) hS
            refine ⟨by omega, fun z => ?_⟩
            by_cases z2 : b = b2
            · subst z2
              have := hlast.2 z
              by_cases z3 : i + 1 - b = len
              · exfalso
                have z4 := hL.2.1
                have z5 := hL.1.1
                omega
              · omega
            · omega
        · rw [if_neg h]
          have hsub : nI i - nI (i + 1 - b) + 1 = nI b := by
            rw [Int32.sub_eq_add_neg, Int32.add_assoc, Int32.add_comm (-nI (i + 1 - b)) 1, ← Int32.add_assoc, nI_1, ← Int32.sub_eq_add_neg, pk_sub (by omega), show i + 1 - (i + 1 - b) = b by omega]
          refine ⟨_, rfl, nI_1 i, Or.inr ⟨b, i + 1 - b, b, rfl, hsub, by omega, rfl, by rw [hv], hS', hM', by rw [show b + (i + 1 - b) = i + 1 by omega]; exact hS', by omega, fun b2 e2 he2 hs2 => ?_⟩⟩
          by_cases q : e2 ≤ i
          · have z := hL.2.2 b2 e2 q hs2
            exact ⟨by omega, fun _ => by omega⟩
          · have e3 : e2 = i + 1 := by omega
            subst e3
            have hb2 : b ≤ b2 := by
              by_cases z : b ≤ b2
              · exact z
              · exact absurd hs2 (hM' b2 (by omega))
            exact ⟨by omega, fun z => by omega⟩
      · have hS' : Seg (vrd L) i (i + 1) := ⟨by omega, fun k h1 h2 => by rw [show k = i by omega]⟩
        have hM' : ∀ e, e < i → ¬ Seg (vrd L) e (i + 1) := fun e he q => by
          have z1 := q.2 i (by omega) (by omega)
          by_cases z : e < b
          · exact hM e z ⟨by omega, fun k h1 h2 => q.2 k h1 (by omega)⟩
          · have z2 := hS.2 e (by omega) he
            exact hv (z1.trans z2)
        have hone : 1 ≤ len := by
          have := (hL.2.2 b (b + 1) (by omega) ⟨by omega, fun k h1 h2 => by rw [show k = b by omega]⟩).1
          omega
        rw [if_neg hv]
        simp only [bsm]
        rw [if_len (u := 1) (a := 1) rfl rfl (by omega) (by omega), if_pos hone]
        refine ⟨_, rfl, nI_1 i, Or.inr ⟨lo, len, i, rfl, rfl, by omega, by rw [show i + 1 - i = 1 by omega]; rfl, rfl, hS', hM', hL.1, by have := hL.2.1; omega, fun b2 e2 he2 hs2 => ?_⟩⟩
        by_cases q : e2 ≤ i
        · exact hL.2.2 b2 e2 q hs2
        · have e3 : e2 = i + 1 := by omega
          subst e3
          have hb2 : i ≤ b2 := by
            by_cases z : i ≤ b2
            · exact z
            · exact absurd hs2 (hM' b2 (by omega))
          have z2 := hs2.1
          have z3 := hL.2.1
          have z4 := hL.1.1
          exact ⟨by omega, fun z => by omega⟩) (by
    rintro ⟨s1, s2, s3, s4, s5⟩ ⟨e1, e2⟩
    dsimp only at e1 e2
    subst e1
    rcases e2 with ⟨e2, -⟩ | ⟨lo, len, b, rfl, rfl, -, -, -, -, -, hL⟩
    · omega
    · exact ⟨_, rfl, lo, len, rfl, hL⟩) (by omega) ⟨rfl, Or.inl ⟨rfl, rfl⟩⟩
  have z1 := h3.2.1
  have z2 := h3.1.1
  subst h2
  exact ⟨lo, len, by omega, by omega, h3, h1⟩
/-- how far it is the same from b on -/
def Run (f : Nat → Nat) (b n : Nat) : Prop := Seg f b (b + n) ∧ b + n ≤ 10 ∧ ∀ e, e ≤ 10 → Seg f b e → e ≤ b + n
theorem Run_eq {f : Nat → Nat} {b n n' : Nat} (h : Run f b n) (h' : Run f b n') : n = n' := by
  have h1 := h.2.2 _ h'.2.1 h'.1
  have h2 := h'.2.2 _ h.2.1 h.1
  omega
theorem rx_run {r : Nat → Int32} {L : LdN} (hR : RR r L) (hV : LdV L) {b : Nat} (hb : b < 10) : ∃ n, 0 < n ∧ n ≤ 10 ∧ Run (vrd L) b n ∧ fX4_runFrom (nI b) r = some (nI n) := by
  unfold fX4_runFrom
  obtain ⟨x, h1, e, h2, h3, h4, h5⟩ := lp_ex (body := bX4_runFrom_2 (nI b) r) (s0 := nI b) (fun i s => s = nI (b + i) ∧ b + i ≤ 10 ∧ ∀ k, b ≤ k → k < b + i → vrd L k = vrd L b) (fun x => ∃ e, x = nI e ∧ e ≤ 10 ∧ Seg (vrd L) b e ∧ (e = 10 ∨ ¬ vrd L e = vrd L b)) 10 (by omega) (by
    rintro i s hi ⟨rfl, hi2, hA⟩
    dsimp only [bX4_runFrom_2]
    rw [if_len (u := 10) (a := 10) rfl rfl (by omega) (by omega)]
    by_cases h : 10 ≤ b + i
    · rw [if_pos h]
      exact Or.inr ⟨_, rfl, b + i, rfl, hi2, ⟨by omega, hA⟩, Or.inl (by omega)⟩
    · have l1 := vr_le hV (b + i)
      have l2 := vr_le hV b
      rw [if_neg h, rx_verd hR hV (by omega), rx_verd hR hV (by omega)]
      simp only [bsm]
      rw [if_eqn rfl (by omega) (by omega), nI_1]
      by_cases h2 : vrd L (b + i) = vrd L b
      · rw [if_pos h2]
        refine Or.inl ⟨by omega, _, rfl, rfl, by omega, fun k k1 k2 => ?_⟩
        by_cases q : k = b + i
        · rw [q]; exact h2
        · exact hA k k1 (by omega)
      · rw [if_neg h2]
        refine Or.inr ⟨_, rfl, b + i, rfl, by omega, ⟨?_, hA⟩, Or.inr h2⟩
        by_cases q : i = 0
        · subst q
          exact absurd rfl h2
        · omega) ⟨rfl, by omega, fun k h1 h2 => by omega⟩
  subst h2
  rw [h1]
  have h6 := h4.1
  refine ⟨e - b, by omega, by omega, ⟨by rw [show b + (e - b) = e by omega]; exact h4, by omega, fun e2 he2 hs2 => ?_⟩, ?_⟩
  · by_cases q : e2 ≤ e
    · omega
    · exfalso
      rcases h5 with h5 | h5
      · omega
      · exact h5 (hs2.2 e (by omega) (by omega))
  · simp only [bsm]
    rw [pk_sub (by omega)]
theorem rx_runs {r : Nat → Int32} {L : LdN} (hR : RR r L) (hV : LdV L) : ∃ lo len, Lng (vrd L) 10 lo len ∧ lp (bX4_window_20 r) fu (0, 0) = some (nI lo) ∧ fX4_runFrom (nI lo) r = some (nI len) := by
  obtain ⟨x, h1, d, hd, rfl, n, hn, hrun, hB⟩ := lp_rel (body := bX4_window_20 r) (s0 := (0, 0)) (fun i s => s.2 = nI i ∧ ∃ d, d < 10 ∧ s.1 = nI d ∧ d ≤ i ∧ ∃ n, Run (vrd L) d n ∧ ∀ b m, b < i → Run (vrd L) b m → m ≤ n ∧ (b < d → m < n)) (fun x => ∃ d, d < 10 ∧ x = nI d ∧ ∃ n, Run (vrd L) d n ∧ fX4_runFrom (nI d) r = some (nI n) ∧ ∀ b m, b < 10 → Run (vrd L) b m → m ≤ n ∧ (b < d → m < n)) 10 (by
    rintro i ⟨s1, s2⟩ hi ⟨e1, d, hd, e2, e3, n, hn, hB⟩
    dsimp only at e1 e2
    subst e1; subst e2
    obtain ⟨ni, q1, q2, q3, q4⟩ := rx_run hR hV (b := i) (by omega)
    obtain ⟨nd, p1, p2, p3, p4⟩ := rx_run hR hV (b := d) (by omega)
    have en := Run_eq hn p3
    subst en
    dsimp only [bX4_window_20]
    rw [if_len (u := 10) (a := 10) rfl rfl (by omega) (by omega), if_neg (by omega), q4, p4]
    simp only [bsm]
    rw [if_len rfl rfl (by omega) (by omega), nI_1]
    by_cases h : ni ≤ n
    · rw [if_pos h]
      refine ⟨_, rfl, rfl, d, hd, rfl, by omega, n, hn, fun b m hb hm => ?_⟩
      by_cases q : b = i
      · subst q
        have := Run_eq hm q3
        subst this
        exact ⟨h, fun z => by omega⟩
      · exact hB b m (by omega) hm
    · rw [if_neg h]
      refine ⟨_, rfl, rfl, i, by omega, rfl, by omega, ni, q3, fun b m hb hm => ?_⟩
      by_cases q : b = i
      · subst q
        have := Run_eq hm q3
        subst this
        exact ⟨Nat.le_refl _, fun z => by omega⟩
      · have z := hB b m (by omega) hm
        exact ⟨by omega, fun _ => by omega⟩) (by
    rintro ⟨s1, s2⟩ ⟨e1, d, hd, e2, e3, n, hn, hB⟩
    dsimp only at e1 e2
    subst e1; subst e2
    obtain ⟨nd, p1, p2, p3, p4⟩ := rx_run hR hV (b := d) (by omega)
    have en := Run_eq hn p3
    subst en
    exact ⟨_, rfl, d, hd, rfl, n, hn, p4, hB⟩) (by omega) ⟨rfl, 0, by omega, rfl, Nat.le_refl 0, (by
      obtain ⟨nd, p1, p2, p3, p4⟩ := rx_run hR hV (b := 0) (by omega)
      exact ⟨nd, p3, fun b m hb _ => absurd hb (Nat.not_lt_zero b)⟩)⟩
  refine ⟨d, n, ⟨hn.1, hn.2.1, fun b e he hs => ?_⟩, h1, hrun⟩
  have hb := hs.1
  obtain ⟨m, q1, q2, q3, -⟩ := rx_run hR hV (b := b) (by omega)
  have z1 := q3.2.2 e he hs
  have z2 := hB b m (by omega) q3
  exact ⟨by omega, fun z => by have := z2.2 z; omega⟩
theorem bx_high {g : LandT} {r : Nat → Int32} {L : LdN} (hG : GR g L) (hR : RR r L) (hV : LdV L) : ∃ x, fX0_highest g = some x ∧ fX4_highest r = some x := by
  have hN := hV.2.2.2.2.2.2.1
  unfold fX0_highest fX4_highest
  obtain ⟨x, y, h6, h7, h8⟩ := lp_sim (bA := bX0_highest_7 g) (bB := bX4_highest_5 r) (a := (-9, -1, 0)) (b := (-9, 0)) (fun i s s' => s.2.2 = nI i ∧ s'.2 = nI i ∧ ((s.1 = -9 ∧ s.2.1 = -1 ∧ s'.1 = -9) ∨ ∃ d, d < i ∧ s.1 = nI d ∧ s.2.1 = nI (topN L d) ∧ s'.1 = nI d)) (fun x y => x = y) (eN L) (by omega) (by
    rintro i ⟨s1, s2, s3⟩ ⟨z1, z2⟩ hi ⟨e1, e2, e3⟩
    dsimp only at e1 e2 e3
    subst e1; subst e2
    dsimp only [bX0_highest_7, bX4_highest_5]
    rw [hG.2.2.2.2.2.2.2.1, cl_0, hR.1, if_len rfl rfl (by omega) (by omega), if_len rfl rfl (by omega) (by omega)]
    by_cases h : eN L ≤ i
    · rw [if_pos h, if_pos h]
      refine Or.inr ⟨_, _, rfl, rfl, ?_⟩
      rcases e3 with ⟨rfl, -, rfl⟩ | ⟨d, -, rfl, -, rfl⟩ <;> rfl
    · refine Or.inl ⟨by omega, ?_⟩
      have hT := topN_le hV i
      rw [if_neg h, if_neg h, gx_top hG hV (by omega), rx_top hR hV (by omega)]
      simp only [bsm, nI_1]
      rcases e3 with ⟨rfl, rfl, rfl⟩ | ⟨d, hd, rfl, rfl, rfl⟩
      · rw [if_neg (Int32.not_le.mpr (n_m1 (by omega))), if_pos (show (-9 : Int32) < 0 by decide)]
        exact ⟨_, _, rfl, rfl, rfl, rfl, Or.inr ⟨i, by omega, rfl, rfl, rfl⟩⟩
      · rw [if_neg (nI_pos (n := d) (by omega)), rx_top hR hV (by omega)]
        simp only [bsm]
        by_cases h3 : nI (topN L i) ≤ nI (topN L d)
        · rw [if_pos h3, if_pos h3]
          exact ⟨_, _, rfl, rfl, rfl, rfl, Or.inr ⟨d, by omega, rfl, rfl, rfl⟩⟩
        · rw [if_neg h3, if_neg h3]
          exact ⟨_, _, rfl, rfl, rfl, rfl, Or.inr ⟨i, by omega, rfl, rfl, rfl⟩⟩) ⟨rfl, rfl, Or.inl ⟨rfl, rfl, rfl⟩⟩
  rw [h6, h7, h8]
  exact ⟨_, rfl, rfl⟩
theorem bx_twos {g : LandT} {r : Nat → Int32} {L : LdN} (hG : GR g L) (hR : RR r L) (hV : LdV L) : ∃ x, fX0_twosInOneCell g = some x ∧ fX4_sameOnes r = some x := by
  have hN := hV.2.2.2.2.2.2.1
  unfold fX0_twosInOneCell fX4_sameOnes
  obtain ⟨x, y, h6, h7, h8⟩ := lp_sim (bA := bX0_twosInOneCell_4 g) (bB := bX4_sameOnes_4 r) (a := (0, 0)) (b := (0, 0)) (fun i s s' => s = s' ∧ s.2 = nI i) (fun x y => x = y) (eN L) (by omega) (by
    rintro i ⟨s1, s2⟩ s' hi ⟨rfl, e2⟩
    dsimp only at e2
    subst e2
    dsimp only [bX0_twosInOneCell_4, bX4_sameOnes_4]
    rw [hG.2.2.2.2.2.2.2.1, cl_0, hR.1, if_len rfl rfl (by omega) (by omega), if_len rfl rfl (by omega) (by omega)]
    by_cases h : eN L ≤ i
    · rw [if_pos h, if_pos h]
      exact Or.inr ⟨_, _, rfl, rfl, rfl⟩
    · refine Or.inl ⟨by omega, ?_⟩
      obtain ⟨x, y, k1, k2, k3⟩ := lp_sim (bA := bX0_twosInOneCell_16 g (nI i)) (bB := bX4_sameOnes_18 r (nI i)) (a := (s1, nI (i + 1))) (b := (s1, nI (i + 1))) (fun j s s' => s = s' ∧ s.2 = nI (i + 1 + j)) (fun x y => x = y) (eN L) (by omega) (by
        rintro j ⟨z1, z2⟩ z' hj ⟨rfl, f2⟩
        dsimp only at f2
        subst f2
        dsimp only [bX0_twosInOneCell_16, bX4_sameOnes_18]
        rw [hG.2.2.2.2.2.2.2.1, cl_0, hR.1, if_len rfl rfl (by omega) (by omega), if_len rfl rfl (by omega) (by omega)]
        by_cases h : eN L ≤ i + 1 + j
        · rw [if_pos h, if_pos h]
          exact Or.inr ⟨_, _, rfl, rfl, rfl⟩
        · refine Or.inl ⟨by omega, ?_⟩
          rw [if_neg h, if_neg h, if_ob (show i < 7 by omega) (by omega), if_ob (show i + 1 + j < 7 by omega) (by omega), of_2, of_2]
          simp only [bsm]
          rw [if_ob (show 34 + 3 * i < 53 by omega) (by omega), if_ob (show 34 + 3 * (i + 1 + j) < 53 by omega) (by omega), cl (by omega), cl (by omega), cl (by omega), cl (by omega), hG.2.2.2.2.1 i (by omega), hG.2.2.2.2.1 (i + 1 + j) (by omega), hR.2.2.2.2.2.2.2.2.2 i (by omega), hR.2.2.2.2.2.2.2.2.2 (i + 1 + j) (by omega), nI_1]
          by_cases h3 : nI (eC L i) = nI (eC L (i + 1 + j))
          · rw [if_pos h3]
            exact ⟨_, _, rfl, rfl, rfl, rfl⟩
          · rw [if_neg h3]
            exact ⟨_, _, rfl, rfl, rfl, rfl⟩) ⟨rfl, rfl⟩
      rw [if_neg h, if_neg h, nI_1, k1, k2, k3]
      exact ⟨_, _, rfl, rfl, rfl, rfl⟩) ⟨rfl, rfl⟩
  rw [h6, h7, h8]
  exact ⟨_, rfl, rfl⟩
theorem i_andn (m a x : Int32) : m &&& ((a ||| x) ^^^ (-1)) = (m &&& (a ^^^ (-1))) &&& (x ^^^ (-1)) := by
  apply Int32.toBitVec_inj.mp
  show m.toBitVec &&& ((a.toBitVec ||| x.toBitVec) ^^^ BitVec.allOnes 32) = (m.toBitVec &&& (a.toBitVec ^^^ BitVec.allOnes 32)) &&& (x.toBitVec ^^^ BitVec.allOnes 32)
  apply BitVec.eq_of_getLsbD_eq
  intro i hi
  simp only [BitVec.getLsbD_and, BitVec.getLsbD_xor, BitVec.getLsbD_allOnes, BitVec.getLsbD_or, hi, decide_true]
  cases m.toBitVec.getLsbD i <;> cases a.toBitVec.getLsbD i <;> cases x.toBitVec.getLsbD i <;> rfl
theorem i_and0 (m : Int32) : m &&& (0 ^^^ (-1)) = m := by
  apply Int32.toBitVec_inj.mp
  show m.toBitVec &&& (0#32 ^^^ BitVec.allOnes 32) = m.toBitVec
  apply BitVec.eq_of_getLsbD_eq
  intro i hi
  simp only [BitVec.getLsbD_and, BitVec.getLsbD_xor, BitVec.getLsbD_allOnes, BitVec.getLsbD_zero, hi, decide_true]
  cases m.toBitVec.getLsbD i <;> rfl
theorem bx_lost {g : LandT} {r : Nat → Int32} {L : LdN} (hG : GR g L) (hR : RR r L) (hV : LdV L) : ∃ x, fX0_lost g = some x ∧ fX4_lostOnes r = some x := by
  have hN := hV.2.2.2.2.2.2.1
  unfold fX0_lost fX4_lostOnes
  rw [hG.2.2.2.2.2.2.2.1, cl_0, hR.1]
  generalize ((1 : Int32) <<< (nI (eN L) &&& 31)) - 1 = M
  obtain ⟨x, y, h6, h7, h8⟩ := lp_sim (bA := bX0_lost_4 g) (bB := bX4_lostOnes_13 r) (a := (0, 0)) (b := (M, 0)) (fun i s s' => s'.1 = M &&& (s.1 ^^^ (-1)) ∧ s.2 = nI i ∧ s'.2 = nI i) (fun x y => y = M &&& (x ^^^ (-1))) 10 (by omega) (by
    rintro i ⟨s1, s2⟩ ⟨z1, z2⟩ hi ⟨e1, e2, e3⟩
    dsimp only at e1 e2 e3
    subst e1; subst e2; subst e3
    dsimp only [bX0_lost_4, bX4_lostOnes_13]
    rw [if_len (u := 10) (a := 10) rfl rfl (by omega) (by omega), if_len (u := 10) (a := 10) rfl rfl (by omega) (by omega)]
    by_cases h : 10 ≤ i
    · rw [if_pos h, if_pos h]
      exact Or.inr ⟨_, _, rfl, rfl, rfl⟩
    · rw [if_neg h, if_neg h, gx_sight hG hV (by omega), rx_sight hR hV (by omega)]
      simp only [bsm, nI_1]
      exact Or.inl ⟨by omega, _, _, rfl, rfl, (i_andn _ _ _).symm, rfl, rfl⟩) ⟨(i_and0 M).symm, rfl, rfl⟩
  rw [h6, h7, h8]
  exact ⟨_, rfl, rfl⟩
theorem bx_long {g : LandT} {r : Nat → Int32} {L : LdN} (hG : GR g L) (hR : RR r L) (hV : LdV L) : ∃ x y, fX3_longestRun 0 g = some y ∧ fX3_longestRun 1 g = some x ∧ lp (bX4_window_20 r) fu (0, 0) = some x ∧ fX4_runFrom x r = some y := by
  obtain ⟨lo, len, hlo, hlen, k1, k2⟩ := gx_runs hG hV
  obtain ⟨lo2, len2, k3, k4, k5⟩ := rx_runs hR hV
  obtain ⟨rfl, rfl⟩ := Lng_eq k1 k3
  refine ⟨nI lo, nI len, ?_, ?_, k4, k5⟩
  · unfold fX3_longestRun
    rw [k2, bsm]
    exact if_pos rfl
  · unfold fX3_longestRun
    rw [k2, bsm]
    exact i_n1
set_option maxHeartbeats 2000000 in
theorem st_window (yn : LandT) (ym : LandT) (yk : LandT) (yl : (Nat → Int32)) (yt : Int32) (yd : Int32) (yu : (Nat → Int32)) (ye : (Nat → Int32)) (yv : (Nat → Int32)) (yo : (Nat → Int64)) (y0 : (Nat → Int32)) (y1 : (Nat → Int32)) (yc : Int32) (yh : Int32) (xs : (Nat → Int32)) (xm : (Nat → Int32)) (xi : (Nat → Int32)) (xw : (Nat → Int32)) (xh : Int32) (xl : (Nat → Int32)) (xr : (Nat → Int32)) (xe : (Nat → Int32)) (xn : Int32) (xo : Int32) (xp : Int32) (xu : (Nat → Int32)) (xd : Int32) (v1 : Int32) (hI : Inv yn yk yl yt yu ye yc yh xs xi xh xl xr xe xn xo) : ∃ (ra : Int32 × (Nat → Int32)) (rb : Int32 × (Nat → Int32)), fX3_window v1 yn ye = some ra ∧ fX4_window v1 xs xe = some rb ∧ ra.1 = rb.1 ∧ Inv yn yk yl yt yu ra.2 yc yh xs xi xh xl xr rb.2 xn xo := by
  obtain ⟨⟨L, hS, hG, hR⟩, h2, h3, h4, h5⟩ := id hI
  have hV := hS.1
  have hT := hS.2
  have hN := hV.2.2.2.2.2.2.1
  unfold fX3_window fX4_window
  obtain ⟨x, y, k1, k2, k3, k4⟩ := bx_long hG hR hV
  by_cases c0 : v1 = 0
  · subst c0
    simp only [show fX4_isIn 0 0 4 = some 1 from rfl, if_true, bsm, i_n1, k3, k4, if_neg (show ¬ (0 : Int32) = 1 by decide), k1]
    exact ⟨_, _, rfl, rfl, rfl, hI⟩
  by_cases c1 : v1 = 1
  · subst c1
    simp only [show fX4_isIn 1 0 4 = some 1 from rfl, if_true, bsm, i_n1, k3, k2]
    exact ⟨_, _, rfl, rfl, rfl, hI⟩
  by_cases c2 : v1 = 2
  · subst c2
    obtain ⟨z, j1, j2⟩ := bx_high hG hR hV
    simp only [show fX4_isIn 2 0 4 = some 1 from rfl, if_true, bsm, i_n1, k3, j1, j2, if_neg (show ¬ (2 : Int32) = 0 by decide), if_neg (show ¬ (2 : Int32) = 1 by decide)]
    exact ⟨_, _, rfl, rfl, rfl, hI⟩
  by_cases c3 : v1 = 3
  · subst c3
    obtain ⟨z, j1, j2⟩ := bx_twos hG hR hV
    simp only [show fX4_isIn 3 0 4 = some 1 from rfl, if_true, bsm, i_n1, k3, j1, j2, if_neg (show ¬ (3 : Int32) = 0 by decide), if_neg (show ¬ (3 : Int32) = 1 by decide), if_neg (show ¬ (3 : Int32) = 2 by decide)]
    exact ⟨_, _, rfl, rfl, rfl, hI⟩
  by_cases c4 : v1 = 4
  · subst c4
    obtain ⟨z, j1, j2⟩ := bx_lost hG hR hV
    simp only [show fX4_isIn 4 0 4 = some 1 from rfl, if_true, bsm, i_n1, k3, j1, j2, if_neg (show ¬ (4 : Int32) = 0 by decide), if_neg (show ¬ (4 : Int32) = 1 by decide), if_neg (show ¬ (4 : Int32) = 2 by decide), if_neg (show ¬ (4 : Int32) = 3 by decide)]
    exact ⟨_, _, rfl, rfl, rfl, hI⟩
  rw [if_neg c0, if_neg c1, if_neg c2, if_neg c3, if_neg c4]
  have hno : fX4_isIn v1 0 4 = some 0 := by
    rcases cs_in v1 4 (by omega) with h | ⟨k, hk, rfl, h⟩
    · exact h
    · exfalso
      have hk' : k = 0 ∨ k = 1 ∨ k = 2 ∨ k = 3 ∨ k = 4 := by omega
      rcases hk' with rfl | rfl | rfl | rfl | rfl
      · exact c0 rfl
      · exact c1 rfl
      · exact c2 rfl
      · exact c3 rfl
      · exact c4 rfl
  obtain ⟨u, w, q1, q2, q3⟩ := rf h5 (c := -2) (k := 2) (by omega) rfl
  rw [hno]
  simp only [bsm, if_true, i_n1, i_m1, i_m2, i_m4, i_m6]
  rw [q1, q2]
  exact ⟨_, _, rfl, rfl, rfl, inv_ref hI q3⟩
