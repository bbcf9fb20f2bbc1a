/-! ===== what a statement tells, on both sides ===== -/
def TD (A : Option (Int32 × LandT)) (B : Option (Int32 × (Nat → Int32))) : Prop := ∃ x g' y r', A = some (x, g') ∧ B = some (y, r') ∧ ((x = 1 ∧ y = 1 ∧ ∃ L', LdS L' ∧ GR g' L' ∧ RR r' L') ∨ (x = 0 ∧ y = 0))
theorem j_n1 {α : Type} {x y : α} : (if (1 : Int32) = 0 then x else y) = y := by rw [if_neg n10]
section TXD
variable {yl xl : Nat → Int32} {l : Nat → Nat} {k p q : Nat} {g : LandT} {r u : Nat → Int32} {L : LdN}
theorem dgv (hV : Vs l k p q) {j : Nat} (hj : j < lnN (shN (l p))) (hch : chN (shN (l p)) j = 48) : dgB (l (p + 1 + j)) = true := by
  have h := hV.2.2.2.2 j hj
  rw [hch, fit48] at h
  exact h
theorem dig1 (hl : LL yl xl l k) {i : Nat} (hi : i < k) (hd : dgB (l i) = true) : fX1_digitAt (nI i) yl (nI k) = some (nI (nbN l i 1)) := by
  have h := dgB_iff.mp hd
  rw [dig_at hl hi, show nI (l i) - 48 = nI (l i - 48) from pk_sub (b := 48) h.1]
  show some (nI (l i - 48)) = some (nI (10 * 0 + (l (i + 0) - 48)))
  rw [show 10 * 0 + (l (i + 0) - 48) = l i - 48 by rw [Nat.add_zero]; omega]
theorem dig2 (hl : LL yl xl l k) {i : Nat} (hi : i + 1 < k) (hd : dgB (l i) = true) (hd2 : dgB (l (i + 1)) = true) : fX1_twoDigitsAt (nI i) yl (nI k) = some (nI (nbN l i 2)) := by
  unfold fX1_twoDigitsAt
  rw [dig1 hl (by omega) hd, nI_1, dig1 hl hi hd2]
  simp only [bsm]
  rw [show (10 : Int32) * nI (nbN l i 1) = nI (10 * nbN l i 1) from pk_mul 10 _, nI_add]
  show some (nI (10 * nbN l i 1 + (10 * 0 + (l (i + 1 + 0) - 48)))) = some (nI (10 * nbN l i 1 + (l (i + 1) - 48)))
  rw [show 10 * 0 + (l (i + 1 + 0) - 48) = l (i + 1) - 48 by rw [Nat.add_zero]; omega]
theorem nb1 {i : Nat} (hd : dgB (l i) = true) : nbN l i 1 ≤ 9 := by
  have h := dgB_iff.mp hd
  show 10 * 0 + (l (i + 0) - 48) ≤ 9
  rw [Nat.add_zero]
  omega
theorem nb2 {i : Nat} (hd : dgB (l i) = true) (hd2 : dgB (l (i + 1)) = true) : nbN l i 2 ≤ 99 := nbN_le (l := l) 2 (by omega) (fun j hj => by
  have : j = 0 ∨ j = 1 := by omega
  rcases this with rfl | rfl
  · exact hd
  · exact hd2)
theorem bo1 : bo 1 = some 1 := rfl
theorem bo0 : bo 0 = some 0 := rfl
theorem td_c {a b : Nat} (hG : GR g L) (hR : RR r L) (hS : LdS L) (ha : a ≤ 99) (hb : b ≤ 9) (h0 : u 0 = nI a) (h1 : u 1 = nI b) : TD (fX1_tellHeight (nI a) (nI b) g) (fX4_isDone (nI 99) r u) := by
  unfold fX1_tellHeight fX4_isDone
  rw [if_pos (show nI 99 = 99 from rfl), cl_0, cl_1, h0, h1]
  rcases cs_cell (nI a) with ⟨e1, e2⟩ | ⟨a', ha', eq, e1, e2⟩
  · rw [e1, e2]
    simp only [bsm, if_true, bo0]
    exact ⟨_, _, _, _, rfl, rfl, Or.inr ⟨rfl, rfl⟩⟩
  · have : a = a' := (n_eq (by omega) (by omega)).mp eq
    subst this
    obtain ⟨g', q1, q2⟩ := gx_setHeight hG hS.1 ha' hb
    rw [e1, e2, q1]
    simp only [bsm, j_n1, bo1]
    rw [n4, if_ob (show 4 + a < 53 by omega) (by omega), cl (by omega)]
    exact ⟨_, _, _, _, rfl, rfl, Or.inl ⟨rfl, rfl, _, ⟨lv_sH hS.1 hb, hS.2⟩, q2, rr_sH hR ha'⟩⟩
theorem td_d {a b : Nat} (hG : GR g L) (hR : RR r L) (hS : LdS L) (ha : a ≤ 99) (hb : b ≤ 99) (h0 : u 0 = nI a) (h1 : u 1 = nI b) : TD (fX1_tellDriven (nI a) (nI b) g) (fX4_isDone (nI 100) r u) := by
  have hN := hS.1.2.2.2.2.2.2.1
  unfold fX1_tellDriven fX4_isDone
  rw [if_neg (show ¬ nI 100 = 99 by decide), if_pos (show nI 100 = 100 from rfl), cl_0, cl_1, h0, h1]
  rcases cs_thing hG hR hN (nI a) with ⟨e1, e2⟩ | ⟨a', ha', eq, e1, e2⟩
  · rw [e1, e2]
    simp only [bsm, if_true, bo0]
    exact ⟨_, _, _, _, rfl, rfl, Or.inr ⟨rfl, rfl⟩⟩
  · have : a = a' := (n_eq (by omega) (by omega)).mp eq
    subst this
    rw [e1, e2]
    simp only [bsm, j_n1]
    rcases cs_cell (nI b) with ⟨e3, e4⟩ | ⟨b', hb', eq2, e3, e4⟩
    · rw [e3, e4]
      simp only [bsm, if_true, bo0]
      exact ⟨_, _, _, _, rfl, rfl, Or.inr ⟨rfl, rfl⟩⟩
    · have : b = b' := (n_eq (by omega) (by omega)).mp eq2
      subst this
      rw [e3, e4, of_2]
      simp only [bsm, j_n1, bo1]
      rw [if_ob (show a < 7 by omega) (by omega), if_ob (show 34 + 3 * a < 53 by omega) (by omega), cl (by omega), cl (by omega)]
      exact ⟨_, _, _, _, rfl, rfl, Or.inl ⟨rfl, rfl, _, ⟨lv_sC hS.1 hb', hS.2⟩, gg_sC hG, rr_sC hR (by omega)⟩⟩
theorem td_e {a : Nat} (hG : GR g L) (hR : RR r L) (hS : LdS L) (ha : a ≤ 99) (h0 : u 0 = nI a) : TD (fX1_tellEyes (nI a) g) (fX4_isDone (nI 101) r u) := by
  unfold fX1_tellEyes fX4_isDone
  rw [if_neg (show ¬ nI 101 = 99 by decide), if_neg (show ¬ nI 101 = 100 by decide), if_pos (show nI 101 = 101 from rfl), cl_0, cl_2, h0, if_ltn (u := 16) (a := 16) rfl rfl (by omega) (by omega), isW_eq]
  by_cases h : 16 < a
  · rw [if_pos h]
    unfold fX4_isIn
    rw [if_neg (nI_pos (n := a) (by omega)), if_ltn (u := 16) (a := 16) rfl rfl (by omega) (by omega), if_pos h]
    simp only [bsm, if_true, bo0]
    exact ⟨_, _, _, _, rfl, rfl, Or.inr ⟨rfl, rfl⟩⟩
  · rw [if_neg h, show fX4_isIn (nI a) 0 16 = some 1 from isIn_t (a := 0) (b := 16) rfl (Nat.zero_le a) (by omega) (by omega)]
    simp only [bsm, j_n1, bo1]
    exact ⟨_, _, _, _, rfl, rfl, Or.inl ⟨rfl, rfl, _, ⟨lv_sE (v := a) hS.1 (by omega), hS.2⟩, gg_sE (v := a) hG, rr_sE (v := a) hR⟩⟩
theorem td_h {a : Nat} (hG : GR g L) (hR : RR r L) (hS : LdS L) (ha : a ≤ 99) (h0 : u 0 = nI a) : TD (fX1_tellHours (nI a) g) (fX4_isDone (nI 104) r u) := by
  have hT := hS.2
  unfold fX1_tellHours fX4_isDone
  rw [if_neg (show ¬ nI 104 = 99 by decide), if_neg (show ¬ nI 104 = 100 by decide), if_neg (show ¬ nI 104 = 101 by decide), if_neg (show ¬ nI 104 = 116 by decide), if_neg (show ¬ nI 104 = 118 by decide), if_neg (show ¬ nI 104 = 120 by decide), cl_0, cl_1, h0, hR.2.1, hG.2.2.2.2.2.2.2.2.2.2, show (999 : Int32) - nI (eT L) = nI (999 - eT L) from pk_sub (a := 999) hT, isW_eq, nI_add, if_len (v := 999) (k := 999) rfl rfl (by omega) (by omega)]
  have hm : imin 60 (nI (999 - eT L)) = nI (min 60 (999 - eT L)) := by
    unfold imin
    rw [if_ltn (v := 60) (k := 60) rfl rfl (by omega) (by omega)]
    by_cases h : 999 - eT L < 60
    · rw [if_pos h, Nat.min_eq_right (by omega)]
    · rw [if_neg h, Nat.min_eq_left (by omega)]
      rfl
  rw [hm]
  have hml : min 60 (999 - eT L) ≤ 60 := Nat.min_le_left _ _
  have hmr : min 60 (999 - eT L) ≤ 999 - eT L := Nat.min_le_right _ _
  unfold fX4_isIn
  rw [if_ltn (v := 1) (k := 1) rfl rfl (by omega) (by omega), if_ltn (v := 1) (k := 1) rfl rfl (by omega) (by omega), if_ltn rfl rfl (by omega) (by omega), if_ltn (u := 60) (a := 60) rfl rfl (by omega) (by omega)]
  by_cases c1 : a < 1
  · rw [if_pos c1, if_pos c1]
    simp only [bsm, if_true, bo0]
    exact ⟨_, _, _, _, rfl, rfl, Or.inr ⟨rfl, rfl⟩⟩
  · rw [if_neg c1, if_neg c1]
    by_cases c2 : 60 < a
    · rw [if_pos c2, if_pos (show min 60 (999 - eT L) < a by omega)]
      simp only [bsm, if_true, bo0]
      exact ⟨_, _, _, _, rfl, rfl, Or.inr ⟨rfl, rfl⟩⟩
    · rw [if_neg c2]
      by_cases c3 : eT L + a ≤ 999
      · have hg : a ≤ min 60 (999 - eT L) := Nat.le_min.mpr ⟨by omega, by omega⟩
        obtain ⟨g', q1, q2⟩ := gx_pass hG hS.1 (n := a) (by omega) (by omega)
        obtain ⟨r', q3, q4⟩ := rx_hoursOn hR hS.1 (n := a) (by omega) (by omega)
        rw [if_neg (show ¬ min 60 (999 - eT L) < a by omega), if_pos c3, q3, q1]
        simp only [bsm, j_n1, bo1]
        exact ⟨_, _, _, _, rfl, rfl, Or.inl ⟨rfl, rfl, _, ⟨hrsL_V hS.1 a (by omega), by rw [hrsL_T]; exact c3⟩, q2, q4⟩⟩
      · rw [if_neg c3, if_pos (show min 60 (999 - eT L) < a by omega)]
        simp only [bsm, j_n1, if_true, bo0]
        exact ⟨_, _, _, _, rfl, rfl, Or.inr ⟨rfl, rfl⟩⟩
theorem td_v {a b c : Nat} (hG : GR g L) (hR : RR r L) (hS : LdS L) (ha : a < 6) (hb : b ≤ 9) (hc : c ≤ 9) (h0 : u 0 = nI a) (h1 : u 1 = nI b) (h2 : u 2 = nI c) : TD (fX1_tellCode (nI a) (nI b) (nI c) g) (fX4_isDone (nI 118) r u) := by
  unfold fX1_tellCode fX4_isDone
  rw [if_neg (show ¬ nI 118 = 99 by decide), if_neg (show ¬ nI 118 = 100 by decide), if_neg (show ¬ nI 118 = 101 by decide), if_neg (show ¬ nI 118 = 116 by decide), if_pos (show nI 118 = 118 from rfl), cl_0, cl_1, cl_2, h0, h1, h2]
  rcases cs_kind (nI a) with ⟨e1, e2⟩ | ⟨a', ha', eq, e1, e2⟩
  · rw [show fX4_isIn (nI a) 0 5 = some 1 from isIn_t (a := 0) (b := 5) rfl (Nat.zero_le a) (by omega) (by omega)] at e2
    exact absurd e2 (by decide)
  · rw [e1]
    simp only [bsm, j_n1]
    rcases cs_verdict (nI b) with ⟨e3, e4⟩ | ⟨b', hb', eq2, e3, e4⟩
    · rw [e3, e4]
      simp only [bsm, if_true, bo0]
      exact ⟨_, _, _, _, rfl, rfl, Or.inr ⟨rfl, rfl⟩⟩
    · have : b = b' := (n_eq (by omega) (by omega)).mp eq2
      subst this
      have hd : fX0_decree (nI a) (nI b) (nI c) g = some (gH g, gR g, gK g, gF g, gP g, upd (gV g) a (nI b), upd (gQ g) a (nI c), gN g, gD g, gE g, gT g) := by
        unfold fX0_decree
        rw [if_ob ha (by omega), if_ob ha (by omega), cl (by omega)]
      have hV3 := lv_sQ (k := a) (v := c) (lv_sV (k := a) (v := b) hS.1 (by omega)) (by omega)
      have hG3 := gg_sQ (k := a) (v := c) (gg_sV (k := a) (v := b) hG)
      have hR3 := rr_sQ (k := a) (v := c) (rr_sV (k := a) (v := b) hR ha) ha
      rw [e3, e4, hd, n20, n26]
      simp only [bsm, j_n1, bo1]
      rw [if_ob (show 20 + a < 53 by omega) (by omega), if_ob (show 26 + a < 53 by omega) (by omega), cl (by omega), cl (by omega)]
      exact ⟨_, _, _, _, rfl, rfl, Or.inl ⟨rfl, rfl, _, ⟨hV3, hS.2⟩, hG3, hR3⟩⟩
theorem td_x {a : Nat} (hG : GR g L) (hR : RR r L) (hS : LdS L) (ha : a ≤ 9) (h0 : u 0 = nI a) : TD (fX1_tellHidden (nI a) g) (fX4_isDone (nI 120) r u) := by
  have hN := hS.1.2.2.2.2.2.2.1
  have hD := hS.1.2.2.2.2.2.2.2.1
  unfold fX1_tellHidden fX4_isDone
  rw [if_neg (show ¬ nI 120 = 99 by decide), if_neg (show ¬ nI 120 = 100 by decide), if_neg (show ¬ nI 120 = 101 by decide), if_neg (show ¬ nI 120 = 116 by decide), if_neg (show ¬ nI 120 = 118 by decide), if_pos (show nI 120 = 120 from rfl), cl_0, cl_3, h0]
  rcases cs_thing hG hR hN (nI a) with ⟨e1, e2⟩ | ⟨a', ha', eq, e1, e2⟩
  · rw [e1, e2]
    simp only [bsm, if_true, bo0]
    exact ⟨_, _, _, _, rfl, rfl, Or.inr ⟨rfl, rfl⟩⟩
  · have : a = a' := (n_eq (by omega) (by omega)).mp eq
    subst this
    have hx : eD L ^^^ 2 ^ a < 2 ^ 7 := Nat.xor_lt_two_pow hD (Nat.pow_lt_pow_right (by omega) (by omega))
    rw [e1, e2]
    unfold fX0_turnHidden
    simp only [bsm, j_n1, bo1]
    rw [hR.2.2.2.1, hG.2.2.2.2.2.2.2.2.1, n_shl a (by omega), n_xor]
    exact ⟨_, _, _, _, rfl, rfl, Or.inl ⟨rfl, rfl, _, ⟨lv_sD hS.1 hx, hS.2⟩, gg_sD hG, rr_sD hR⟩⟩
theorem td_t {a b c : Nat} (hG : GR g L) (hR : RR r L) (hS : LdS L) (ha : a < 6) (hb : b ≤ 9) (hc : c ≤ 99) (h0 : u 0 = nI a) (h1 : u 1 = nI b) (h2 : u 2 = nI c) : TD (fX1_tellThing (nI a) (nI b) (nI c) g) (fX4_isDone (nI 116) r u) := by
  have hN := hS.1.2.2.2.2.2.2.1
  unfold fX1_tellThing fX4_isDone
  rw [if_neg (show ¬ nI 116 = 99 by decide), if_neg (show ¬ nI 116 = 100 by decide), if_neg (show ¬ nI 116 = 101 by decide), if_pos (show nI 116 = 116 from rfl), cl_0, cl_2, h2, hR.1, hG.2.2.2.2.2.2.2.1, if_len (u := 7) (a := 7) rfl rfl (by omega) (by omega), if_eqn (v := 7) (k := 7) rfl (by omega) (by omega)]
  have e1 : fX3_isKind (nI a) = some 1 := by
    rcases cs_kind (nI a) with ⟨-, e2⟩ | ⟨a', ha', eq, e1, e2⟩
    · rw [show fX4_isIn (nI a) 0 5 = some 1 from isIn_t (a := 0) (b := 5) rfl (Nat.zero_le a) (by omega) (by omega)] at e2
      exact absurd e2 (by decide)
    · exact e1
  rw [e1]
  by_cases c7 : eN L = 7
  · rw [if_pos (show 7 ≤ eN L by omega), if_pos c7]
    rcases cs_cell (nI c) with ⟨e3, e4⟩ | ⟨c', hc', eq2, e3, e4⟩
    · rw [e4]
      simp only [bsm, if_true, bo0]
      exact ⟨_, _, _, _, rfl, rfl, Or.inr ⟨rfl, rfl⟩⟩
    · rw [e4]
      simp only [bsm, j_n1, if_true, bo0]
      exact ⟨_, _, _, _, rfl, rfl, Or.inr ⟨rfl, rfl⟩⟩
  · rw [if_neg (show ¬ 7 ≤ eN L by omega), if_neg c7]
    rcases cs_cell (nI c) with ⟨e3, e4⟩ | ⟨c', hc', eq2, e3, e4⟩
    · rw [e3, e4]
      simp only [bsm, j_n1, if_true, bo0]
      exact ⟨_, _, _, _, rfl, rfl, Or.inr ⟨rfl, rfl⟩⟩
    · have : c = c' := (n_eq (by omega) (by omega)).mp eq2
      subst this
      have hlp : lp (bX4_isDone_120 u) fu (0, r) = some (upd (upd (upd r (32 + 3 * eN L) (nI a)) (33 + 3 * eN L) (nI b)) (34 + 3 * eN L) (nI c)) := by
        refine lp_fu (fun i => (nI i, if i = 0 then r else if i = 1 then upd r (32 + 3 * eN L) (nI a) else if i = 2 then upd (upd r (32 + 3 * eN L) (nI a)) (33 + 3 * eN L) (nI b) else upd (upd (upd r (32 + 3 * eN L) (nI a)) (33 + 3 * eN L) (nI b)) (34 + 3 * eN L) (nI c))) 3 _ rfl ?_ rfl (by omega)
        intro i hi
        have hi' : i = 0 ∨ i = 1 ∨ i = 2 := by omega
        rcases hi' with rfl | rfl | rfl
        · show bX4_isDone_120 u (nI 0, r) = some (.inl (nI 1, upd r (32 + 3 * eN L) (nI a)))
          dsimp only [bX4_isDone_120]
          rw [if_neg (show ¬ (3 : Int32) ≤ nI 0 by decide), cl_0, hR.1, show fX4_of (nI (eN L)) (nI 0) = _ from of_0 (eN L)]
          simp only [bsm]
          rw [if_ob (show 0 < 3 by omega) (by omega), if_ob (show 32 + 3 * eN L < 53 by omega) (by omega), cl (by omega), cl (by omega), h0, nI_1]
        · show bX4_isDone_120 u (nI 1, upd r (32 + 3 * eN L) (nI a)) = some (.inl (nI 2, upd (upd r (32 + 3 * eN L) (nI a)) (33 + 3 * eN L) (nI b)))
          dsimp only [bX4_isDone_120]
          rw [if_neg (show ¬ (3 : Int32) ≤ nI 1 by decide), cl_0, pk_un (show 0 ≠ 32 + 3 * eN L by omega), hR.1, show fX4_of (nI (eN L)) (nI 1) = _ from of_1 (eN L)]
          simp only [bsm]
          rw [if_ob (show 1 < 3 by omega) (by omega), if_ob (show 33 + 3 * eN L < 53 by omega) (by omega), cl (by omega), cl (by omega), h1, nI_1]
        · show bX4_isDone_120 u (nI 2, upd (upd r (32 + 3 * eN L) (nI a)) (33 + 3 * eN L) (nI b)) = some (.inl (nI 3, upd (upd (upd r (32 + 3 * eN L) (nI a)) (33 + 3 * eN L) (nI b)) (34 + 3 * eN L) (nI c)))
          dsimp only [bX4_isDone_120]
          rw [if_neg (show ¬ (3 : Int32) ≤ nI 2 by decide), cl_0, pk_un (show 0 ≠ 33 + 3 * eN L by omega), pk_un (show 0 ≠ 32 + 3 * eN L by omega), hR.1, show fX4_of (nI (eN L)) (nI 2) = _ from of_2 (eN L)]
          simp only [bsm]
          rw [if_ob (show 2 < 3 by omega) (by omega), if_ob (show 34 + 3 * eN L < 53 by omega) (by omega), cl (by omega), cl (by omega), h2, nI_1]
      have hR3 := rr_sC (k := eN L) (v := c) (rr_sF (k := eN L) (v := b) (rr_sK (k := eN L) (v := a) hR (by omega)) (by omega)) (by omega)
      have hG3 := gg_sC (k := eN L) (v := c) (gg_sF (k := eN L) (v := b) (gg_sK (k := eN L) (v := a) hG))
      have hV3 := lv_sC (k := eN L) (v := c) (lv_sF (k := eN L) (v := b) (lv_sK (k := eN L) (v := a) hS.1 ha) hb) hc'
      rw [e3, e4, hlp]
      unfold fX0_addThing
      rw [hG.2.2.2.2.2.2.2.1]
      simp only [bsm, j_n1, bo1]
      rw [if_ob (show eN L < 7 by omega) (by omega), if_ob (show eN L < 7 by omega) (by omega), if_ob (show eN L < 7 by omega) (by omega), cl (by omega), hR3.1, nI_1]
      simp only [bsm]
      rw [show nI (eN (sC (sF (sK L (eN L) a) (eN L) b) (eN L) c)) + 1 = nI (eN L + 1) from nI_1 (eN L)]
      exact ⟨_, _, _, _, rfl, rfl, Or.inl ⟨rfl, rfl, _, ⟨lv_sN (v := eN L + 1) hV3 (by omega), hS.2⟩, gg_sN (v := eN L + 1) hG3, rr_sN (v := eN L + 1) hR3⟩⟩
end TXD
