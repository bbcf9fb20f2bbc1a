/-! ===== the steps: beginnings, lots, hiding ===== -/
def L0 : LdN := (fun _ => 0, fun _ => 0, fun _ => 0, fun _ => 0, fun _ => 0, fun _ => 0, 0, 0, 16, 0)
theorem mx0 (c : Nat) : mxH (fun _ => 0) c = 0 := Nat.le_zero.mp (mxH_le (M := 0) (fun _ => Nat.le_refl 0) c)
theorem st_init : Inv gI gI (fun _ => 0) 0 (fun _ => 0) (fun _ => 0) 0 0 (upd (fun _ => 0) (Int32.toNatClampNeg 2) 16) (fun _ => 0) 0 (fun _ => 0) (fun _ => 0) (fun _ => 0) 0 0 := by
  refine ⟨⟨L0, ⟨⟨fun _ => by show 0 ≤ 9; omega, fun _ => by show 0 < 6; omega, fun _ => by show 0 ≤ 9; omega, fun _ => by show 0 < 16; omega, fun _ => by show 0 ≤ 2; omega, fun _ => by show 0 ≤ 10; omega, by show 0 ≤ 7; omega, by show 0 < 128; omega, by show 16 ≤ 16; omega, by show 0 ≤ 4000; omega⟩, by show 0 ≤ 999; omega⟩, ?_, ?_⟩, Or.inl ⟨rfl, rfl⟩, ⟨0, by omega, rfl, rfl, fun j hj => absurd hj (Nat.not_lt_zero j)⟩, ⟨0, by omega, rfl, rfl, fun j hj => absurd hj (Nat.not_lt_zero j)⟩, fun _ _ => rfl⟩
  · refine ⟨fun _ _ => rfl, fun c hc => ?_, fun _ _ => rfl, fun _ _ => rfl, fun _ _ => rfl, fun _ _ => rfl, fun _ _ => rfl, rfl, rfl, rfl, rfl⟩
    show upd (fun _ => 0) (Int32.toNatClampNeg 0) (-1) c = rdg (fun _ => 0) c
    rw [cl_0]
    unfold rdg
    by_cases e : c = 0
    · rw [e, pk_us, if_pos rfl]
    · rw [pk_un e, if_neg e, mx0]
      rfl
  · have hu : ∀ k, k ≠ 2 → upd (fun _ => (0 : Int32)) (Int32.toNatClampNeg 2) 16 k = 0 := fun k hk => by
      rw [cl_2, pk_un hk]
    exact ⟨hu 0 (by omega), hu 1 (by omega), by rw [cl_2, pk_us]; rfl, hu 3 (by omega), fun c hc => hu (4 + c) (by omega), fun c hc => hu (20 + c) (by omega), fun c hc => hu (26 + c) (by omega), fun c hc => hu (32 + 3 * c) (by omega), fun c hc => hu (33 + 3 * c) (by omega), fun c hc => hu (34 + 3 * c) (by omega)⟩
/-- the things cast anew -/
def plc (L : LdN) (c : Nat → Nat) : LdN := (eH L, eK L, eF L, fun t => if t < eN L then c t else eC L t, eV L, eQ L, eN L, eD L, eE L, eT L)
theorem plc_id (L : LdN) : plc L (eC L) = L := by
  have h : (fun t => if t < eN L then eC L t else eC L t) = eC L := by
    funext t
    split <;> rfl
  show (eH L, eK L, eF L, (fun t => if t < eN L then eC L t else eC L t), eV L, eQ L, eN L, eD L, eE L, eT L) = L
  rw [h]
theorem plc_s (L : LdN) (c : Nat → Nat) {i : Nat} (v : Nat) (hi : i < eN L) : sC (plc L c) i v = plc L (fun j => if j = i then v else c j) := by
  have h : (fun j => if j = i then v else (if j < eN L then c j else eC L j)) = (fun j => if j < eN L then (if j = i then v else c j) else eC L j) := by
    funext j
    by_cases e : j = i
    · rw [if_pos e, if_pos e, if_pos (by omega)]
    · rw [if_neg e, if_neg e]
  show (eH L, eK L, eF L, (fun j => if j = i then v else (if j < eN L then c j else eC L j)), eV L, eQ L, eN L, eD L, eE L, eT L) = _
  rw [h]
  rfl
theorem plc_eq (L : LdN) {c c' : Nat → Nat} (h : ∀ t, t < eN L → c t = c' t) : plc L c = plc L c' := by
  have h2 : (fun t => if t < eN L then c t else eC L t) = (fun t => if t < eN L then c' t else eC L t) := by
    funext t
    by_cases e : t < eN L
    · rw [if_pos e, if_pos e, h t e]
    · rw [if_neg e, if_neg e]
  show (eH L, eK L, eF L, (fun t => if t < eN L then c t else eC L t), eV L, eQ L, eN L, eD L, eE L, eT L) = _
  rw [h2]
  rfl
theorem plc_V {L : LdN} {c : Nat → Nat} (hV : LdV L) (hc : ∀ t, c t < 16) : LdV (plc L c) := by
  obtain ⟨a1, a2, a3, a4, a5⟩ := hV
  refine ⟨a1, a2, a3, fun t => ?_, a5⟩
  show (if t < eN L then c t else eC L t) < 16
  split
  · exact hc t
  · exact a4 t
theorem draw_eq {m : Nat} (hm0 : 0 < m) (hm : m < 100) (s : Int32) : ∃ k, k < m ∧ fX2_draw (nI m) s = some (nI k, s * 1664525 + 1013904223) ∧ fX4_drawn (nI m) s = some (nI k, s * 1664525 + 1013904223) := by
  unfold fX2_draw fX4_drawn
  obtain ⟨j, hj, e⟩ := pk_andE (s * 1664525 + 1013904223) (m := 2147483647) 31 (by decide)
  have hne : ¬ nI m = 0 := nI_ne0 hm0 (by omega)
  have hd := Nat.div_le_self j 256
  rw [e, if_neg (nI_nle hm0 (by omega)), if_neg hne, show nI j / 256 = nI (j / 256) from pk_div (d := 256) (by omega) (by omega) (by omega), irem_n (by omega) hm0 (by omega)]
  exact ⟨_, Nat.mod_lt _ hm0, rfl, rfl⟩
theorem bx_cast {g : LandT} {r xs : Nat → Int32} {L : LdN} {c0 : Nat → Nat} (hV : LdV L) (hx : xs 0 = nI (eN L)) (hG : GR g (plc L c0)) (hR : RR r L) (hc0 : ∀ t, c0 t < 16) (s : Int32) : ∃ g' r' s' c, (∀ t, c t < 16) ∧ lp bX3_lots_73 fu (0, g, s) = some (g', s') ∧ lp (bX4_lots_72 xs) fu (0, r, s) = some (r', s') ∧ GR g' (plc L c) ∧ RR r' (plc L c) := by
  have hN := hV.2.2.2.2.2.2.1
  obtain ⟨x, y, h6, h7, h8, c, hc, h9, h10⟩ := lp_sim (bA := bX3_lots_73) (bB := bX4_lots_72 xs) (a := (0, g, s)) (b := (0, r, s)) (fun i a b => a.1 = nI i ∧ b.1 = nI i ∧ a.2.2 = b.2.2 ∧ ∃ c c', (∀ t, c t < 16) ∧ (∀ t, c' t < 16) ∧ (∀ t, t < i → c t = c' t) ∧ GR a.2.1 (plc L c) ∧ RR b.2.1 (plc L c')) (fun x y => x.2 = y.2 ∧ ∃ c, (∀ t, c t < 16) ∧ GR x.1 (plc L c) ∧ RR y.1 (plc L c)) (eN L) (by omega) (by
    rintro i ⟨s1, s2, s3⟩ ⟨z1, z2, z3⟩ hi ⟨e1, e2, e3, c, c', hc, hc', hcc, hG1, hR1⟩
    dsimp only at e1 e2 e3 hG1 hR1
    subst e1; subst e2; subst e3
    have gnv : gN s2 = nI (eN L) := hG1.2.2.2.2.2.2.2.1
    dsimp only [bX3_lots_73, bX4_lots_72]
    rw [gnv, cl_0, hx, if_len rfl rfl (by omega) (by omega), if_len rfl rfl (by omega) (by omega)]
    by_cases h : eN L ≤ i
    · rw [if_pos h, if_pos h]
      refine Or.inr ⟨_, _, rfl, rfl, rfl, c, hc, hG1, ?_⟩
      rw [plc_eq L (c := c) (c' := c') (fun t ht => hcc t (by omega))]
      exact hR1
    · refine Or.inl ⟨by omega, ?_⟩
      obtain ⟨k, hk, p1, p2⟩ := draw_eq (m := 16) (by omega) (by omega) s3
      have hG2 := gg_sC (k := i) (v := k) hG1
      have hR2 := rr_sC (k := i) (v := k) hR1 (by omega)
      rw [plc_s L c k (by omega), gnv] at hG2
      rw [plc_s L c' k (by omega)] at hR2
      rw [if_neg h, if_neg h, show fX2_draw 16 s3 = _ from p1, show fX4_drawn 16 s3 = _ from p2, of_2]
      simp only [bsm]
      rw [if_ob (show i < 7 by omega) (by omega), if_ob (show 34 + 3 * i < 53 by omega) (by omega), cl (by omega), cl (by omega), nI_1]
      refine ⟨_, _, rfl, rfl, rfl, rfl, rfl, _, _, ?_, ?_, ?_, hG2, hR2⟩
      · intro t
        split
        · exact hk
        · exact hc t
      · intro t
        split
        · exact hk
        · exact hc' t
      · intro t ht
        by_cases e : t = i
        · rw [if_pos e, if_pos e]
        · rw [if_neg e, if_neg e]
          exact hcc t (by omega)) ⟨rfl, rfl, rfl, c0, eC L, hc0, hV.2.2.2.1, fun t ht => absurd ht (Nat.not_lt_zero t), hG, by rw [plc_id]; exact hR⟩
  obtain ⟨x1, x2⟩ := x
  obtain ⟨y1, y2⟩ := y
  dsimp only at h8 h9 h10
  subst h8
  exact ⟨_, _, _, c, hc, h6, h7, h9, h10⟩
theorem bx_term {g : LandT} {r : Nat → Int32} {L : LdN} (hG : GR g L) (hR : RR r L) (hV : LdV L) {b : Nat} (hb : b < 10) : ∃ S m v, fX0_sightFrom (nI b) g = some (nI S) ∧ fX4_seenIn (nI b) r = some (nI S) ∧ fJ6_bitCount_0f7a4 (nI S) = some (nI m) ∧ fX4_bits (nI S) = some (nI m) ∧ fX0_verdictIn (nI S) g = some (nI v) ∧ fX4_verdictIn (nI b) r = some (nI v) := by
  have h := sght_lt hV b
  exact ⟨sght L b, bitsN (sght L b) 16, verN L (sght L b), gx_sight hG hV (by omega), rx_sight hR hV (by omega), bitC _ (by omega), bits_eq (by omega), gx_verd hG hV (by omega), rx_verd hR hV (by omega)⟩
set_option maxHeartbeats 2000000 in
theorem st_lots (yn : LandT) (ym : LandT) (yk : LandT) (yl : (Nat → Int32)) (yt : Int32) (yd : Int32) (yu : (Nat → Int32)) (ye : (Nat → Int32)) (yv : (Nat → Int32)) (yo : (Nat → Int64)) (y0 : (Nat → Int32)) (y1 : (Nat → Int32)) (yc : Int32) (yh : Int32) (xs : (Nat → Int32)) (xm : (Nat → Int32)) (xi : (Nat → Int32)) (xw : (Nat → Int32)) (xh : Int32) (xl : (Nat → Int32)) (xr : (Nat → Int32)) (xe : (Nat → Int32)) (xn : Int32) (xo : Int32) (xp : Int32) (xu : (Nat → Int32)) (xd : Int32) (v1 : Int32) (v2 : Int32) (v3 : Int32) (hI : Inv yn yk yl yt yu ye yc yh xs xi xh xl xr xe xn xo) : ∃ (ra : Int32 × LandT × Int32 × (Nat → Int32)) (rb : Int32 × (Nat → Int32) × (Nat → Int32) × Int32), fX3_lots v1 v2 v3 yn ym yd ye = some ra ∧ fX4_lots v1 v2 v3 xs xm xe xd = some rb ∧ ra.1 = rb.1 ∧ Inv yn yk yl yt yu ra.2.2.2 yc yh xs xi xh xl xr rb.2.2.1 xn xo := by
  obtain ⟨⟨L, hS, hG, hR⟩, h2, h3, h4, h5⟩ := id hI
  have hV := hS.1
  have hT := hS.2
  have hN := hV.2.2.2.2.2.2.1
  unfold fX3_lots fX4_lots
  by_cases c1 : (1 : Int32) ≤ v1
  · have c0 : ¬ v1 < 0 := fun q => absurd (Int32.lt_of_lt_of_le q (show (0 : Int32) ≤ 1 by decide)) (Int32.not_lt.mpr c1)
    obtain ⟨n, hn, rfl⟩ := nI_of c0
    have hn1 : 1 ≤ n := (n_le (a := 1) (by omega) hn).mp c1
    rw [if_pos c1, if_pos c1, if_len (v := 20) (k := 20) rfl rfl hn (by omega), isW_eq]
    unfold fX4_isIn
    rw [if_ltn (v := 1) (k := 1) rfl rfl hn (by omega), if_neg (show ¬ n < 1 by omega), if_ltn (u := 20) (a := 20) rfl rfl (by omega) hn]
    by_cases c2 : 20 < n
    · obtain ⟨u, w, q1, q2, q3⟩ := rf h5 (c := -6) (k := 6) (by omega) rfl
      rw [if_pos c2, if_neg (show ¬ n ≤ 20 by omega)]
      simp only [bsm, if_true, i_n1, i_m1, i_m2, i_m4, i_m6]
      rw [q1, q2]
      exact ⟨_, _, rfl, rfl, rfl, inv_ref hI q3⟩
    · rw [if_neg c2, if_pos (show n ≤ 20 by omega)]
      have hE : fX3_isEither v3 = fX4_isIn v3 0 1 := by
        rcases cs_either v3 with ⟨e1, e2⟩ | ⟨w, hw, rfl, e1, e2⟩
        · rw [e1, e2]
        · rw [e1, e2]
      rcases cs_either v3 with ⟨e1, e2⟩ | ⟨w, hw, rfl, e1, e2⟩
      · obtain ⟨u, w, q1, q2, q3⟩ := rf h5 (c := -2) (k := 2) (by omega) rfl
        unfold fX4_isIn at e2
        simp only [e1, e2, bsm, if_true, i_n1, i_m1, i_m2, i_m4, i_m6]
        rw [q1, q2]
        exact ⟨_, _, rfl, rfl, rfl, inv_ref hI q3⟩
      · obtain ⟨x, y, h6, h7, h8⟩ := lp_sim (bA := bX3_lots_64 (nI n)) (bB := bX4_lots_52 (nI n) (nI w) xs) (a := (0, 0, 0, yn, v2)) (b := (0, 0, xm, v2)) (fun i a b => a.2.2.1 = nI i ∧ b.2.1 = nI i ∧ a.2.2.2.2 = b.2.2.2 ∧ (∃ c, (∀ t, c t < 16) ∧ GR a.2.2.2.1 (plc L c)) ∧ (if w = 0 then a.1 = b.1 else a.2.1 = b.1)) (fun x y => if w = 0 then x.1 = y.1 else x.2.1 = y.1) n (by omega) (by
          rintro i ⟨s1, s2, s3, s4, s5⟩ ⟨z1, z2, z3, z4⟩ hi ⟨f1, f2, f3, ⟨c, hc, hG1⟩, f5⟩
          dsimp only at f1 f2 f3 f5 hG1
          subst f1; subst f2; subst f3
          dsimp only [bX3_lots_64, bX4_lots_52]
          rw [if_len rfl rfl (by omega) (by omega), if_len rfl rfl (by omega) (by omega)]
          by_cases h : n ≤ i
          · rw [if_pos h, if_pos h]
            exact Or.inr ⟨_, _, rfl, rfl, f5⟩
          · refine Or.inl ⟨by omega, ?_⟩
            obtain ⟨r1, q1, hR1⟩ := rx_copy (r2 := z3) hR
            obtain ⟨g2, r2, t2, c2, hc2, p1, p2, hG2, hR2⟩ := bx_cast (xs := xs) hV hR.1 hG1 hR1 hc s5
            obtain ⟨k, hk, p3, p4⟩ := draw_eq (m := 10) (by omega) (by omega) t2
            have hV2 := plc_V hV hc2
            obtain ⟨S, m, v, j1, j2, j3, j4, j5, j6⟩ := bx_term hG2 hR2 hV2 hk
            rw [if_neg h, if_neg h, q1, p1]
            simp only [bsm]
            rw [p2, show fX2_draw 10 t2 = _ from p3]
            simp only [bsm]
            rw [show fX4_drawn 10 t2 = _ from p4, j1]
            simp only [bsm]
            rw [j5, j2, j6, j3]
            simp only [bsm, j4, nI_1]
            have hw' : w = 0 ∨ w = 1 := by omega
            rcases hw' with rfl | rfl
            · rw [if_pos rfl] at f5
              subst f5
              rw [if_neg (show ¬ nI 0 = 1 by decide)]
              by_cases hv : nI v = 1
              · rw [if_pos hv]
                exact ⟨_, _, rfl, rfl, rfl, rfl, rfl, ⟨c2, hc2, hG2⟩, by rw [if_pos rfl]⟩
              · rw [if_neg hv]
                exact ⟨_, _, rfl, rfl, rfl, rfl, rfl, ⟨c2, hc2, hG2⟩, by rw [if_pos rfl]⟩
            · rw [if_neg (show ¬ 1 = 0 by omega)] at f5
              subst f5
              rw [if_pos (show nI 1 = 1 from rfl)]
              by_cases hv : nI v = 1
              · rw [if_pos hv]
                exact ⟨_, _, rfl, rfl, rfl, rfl, rfl, ⟨c2, hc2, hG2⟩, by rw [if_neg (show ¬ 1 = 0 by omega)]⟩
              · rw [if_neg hv]
                exact ⟨_, _, rfl, rfl, rfl, rfl, rfl, ⟨c2, hc2, hG2⟩, by rw [if_neg (show ¬ 1 = 0 by omega)]⟩) ⟨rfl, rfl, rfl, ⟨eC L, hV.2.2.2.1, by rw [plc_id]; exact hG⟩, by split <;> rfl⟩
        obtain ⟨x1, x2, x3, x4⟩ := x
        obtain ⟨y1, y2, y3⟩ := y
        unfold fX4_isIn at e2
        simp only [e1, e2, bsm, if_true, i_n1, i_m1, i_m2, i_m4, i_m6, fX3_inMind, fX0_copyFrom, h6, h7]
        rw [if_eqn (v := 0) (k := 0) rfl (by omega) (by omega)]
        by_cases hw0 : w = 0
        · rw [if_pos hw0]
          rw [if_pos hw0] at h8
          exact ⟨_, _, rfl, rfl, h8, hI⟩
        · rw [if_neg hw0]
          rw [if_neg hw0] at h8
          exact ⟨_, _, rfl, rfl, h8, hI⟩
  · obtain ⟨u, w, q1, q2, q3⟩ := rf h5 (c := -4) (k := 4) (by omega) rfl
    rw [if_neg c1, if_neg c1, isW_eq]
    unfold fX4_isIn
    rw [if_pos (Int32.not_le.mp c1)]
    simp only [bsm, if_true, i_n1, i_m1, i_m2, i_m4, i_m6]
    rw [q1, q2]
    exact ⟨_, _, rfl, rfl, rfl, inv_ref hI q3⟩
theorem decN_sD (L : LdN) (x S : Nat) : ∀ k, decN (sD L x) S k = decN L S k
  | 0 => rfl
  | k + 1 => by
    rw [decN_s, decN_s, decN_sD L x S k]
    rfl
theorem verN_sD (L : LdN) (x S : Nat) : verN (sD L x) S = verN L S := by
  show verO (sD L x) (decN (sD L x) S (eN L)) = verO L (decN L S (eN L))
  rw [decN_sD]
  cases decN L S (eN L) <;> rfl
theorem n_andn {a m c : Nat} (h : ∀ i, c.testBit i = (a.testBit i && !m.testBit i)) : nI a &&& (nI m ^^^ (-1)) = nI c := by
  apply Int32.toBitVec_inj.mp
  show BitVec.ofNat 32 a &&& (BitVec.ofNat 32 m ^^^ BitVec.allOnes 32) = BitVec.ofNat 32 c
  apply BitVec.eq_of_getLsbD_eq
  intro i hi
  simp only [BitVec.getLsbD_and, BitVec.getLsbD_xor, BitVec.getLsbD_allOnes, BitVec.getLsbD_ofNat, hi, h, decide_true, Bool.true_and, Bool.xor_true]
theorem sgtN_hi (L : LdN) (b k : Nat) {i : Nat} (h : k ≤ i) : (sgtN L b k).testBit i = false := Nat.testBit_lt_two_pow (Nat.lt_of_lt_of_le (sgtN_lt L b k) (Nat.pow_le_pow_right (by omega) h))
theorem sght_sD (L : LdN) (b m : Nat) : nI (sght L b) &&& (nI m ^^^ (-1)) = nI (sght (sD L (eD L ||| m)) b) := by
  apply n_andn
  intro i
  by_cases h : i < eN L
  · rw [sgtN_bit L b (eN L) i h, show (sght (sD L (eD L ||| m)) b).testBit i = seeB (sD L (eD L ||| m)) b i from sgtN_bit (sD L (eD L ||| m)) b (eN L) i h]
    show (!(eD L ||| m).testBit i && clrB L b (eC L i) (topN L i)) = ((!(eD L).testBit i && clrB L b (eC L i) (topN L i)) && !m.testBit i)
    rw [Nat.testBit_or]
    cases (eD L).testBit i <;> cases m.testBit i <;> cases clrB L b (eC L i) (topN L i) <;> rfl
  · rw [sgtN_hi L b (eN L) (by omega), show (sght (sD L (eD L ||| m)) b).testBit i = false from sgtN_hi (sD L (eD L ||| m)) b (eN L) (by omega)]
    rfl
/-- with m more hidden the verdict is v from every branch -/
def allV (L : LdN) (m v : Nat) : Prop := ∀ b, b < 10 → vrd (sD L (eD L ||| m)) b = v
theorem gx_evr {g : LandT} {L : LdN} {f : Nat → Int32} (hG : GR g L) (hV : LdV L) (hf : ∀ b, b < 10 → f b = nI (sght L b)) {m v : Nat} (hm : m < 128) (hv : v ≤ 2) : (fX3_isEverywhereWithout (nI m) (nI v) g f = some 1 ∧ allV L m v) ∨ (fX3_isEverywhereWithout (nI m) (nI v) g f = some 0 ∧ ¬ allV L m v) := by
  have hD := hV.2.2.2.2.2.2.2.1
  have hx : eD L ||| m < 2 ^ 7 := Nat.or_lt_two_pow hD hm
  have hV' := lv_sD (v := eD L ||| m) hV hx
  unfold fX3_isEverywhereWithout
  obtain ⟨o, h1, h2⟩ := lp_ex (body := bX3_isEverywhereWithout_2 (nI m) (nI v) g f) (s0 := 0) (fun i s => s = nI i ∧ ∀ b, b < i → vrd (sD L (eD L ||| m)) b = v) (fun o => (o = .inl 0 ∧ ¬ allV L m v) ∨ (o = .inr () ∧ allV L m v)) 10 (by omega) (by
    rintro i s hi ⟨rfl, hA⟩
    dsimp only [bX3_isEverywhereWithout_2]
    rw [if_len (u := 10) (a := 10) rfl rfl (by omega) (by omega)]
    by_cases h : 10 ≤ i
    · rw [if_pos h]
      exact Or.inr ⟨_, rfl, Or.inr ⟨rfl, fun b hb => hA b (by omega)⟩⟩
    · have hs := sght_lt hV' i
      have hl := vr_le hV' i
      rw [if_neg h, if_ob (show i < 10 by omega) (by omega), cl (by omega), hf i (by omega), sght_sD, gx_verd hG hV (by omega), ← verN_sD L (eD L ||| m)]
      simp only [bsm, nI_1]
      rw [if_eqn rfl (show verN (sD L (eD L ||| m)) (sght (sD L (eD L ||| m)) i) < 2 ^ 31 from Nat.lt_of_le_of_lt hl (by omega)) (by omega)]
      by_cases h2 : vrd (sD L (eD L ||| m)) i = v
      · rw [if_pos h2]
        refine Or.inl ⟨by omega, _, rfl, rfl, fun b hb => ?_⟩
        by_cases e : b = i
        · rw [e]; exact h2
        · exact hA b (by omega)
      · rw [if_neg h2]
        exact Or.inr ⟨_, rfl, Or.inl ⟨rfl, fun q => h2 (q i (by omega))⟩⟩) ⟨rfl, fun b hb => absurd hb (Nat.not_lt_zero b)⟩
  rw [h1]
  rcases h2 with ⟨rfl, h3⟩ | ⟨rfl, h3⟩
  · exact Or.inr ⟨rfl, h3⟩
  · exact Or.inl ⟨rfl, h3⟩
theorem rx_evr {r r2 : Nat → Int32} {L : LdN} (hR : RR r L) (hV : LdV L) {m v : Nat} (hm : m < 128) (hv : v ≤ 2) : ∃ r1 S q, q ≤ 16 ∧ fX4_copies r r2 = some r1 ∧ fX4_branchesIn (nI v) (upd r1 (Int32.toNatClampNeg 3) ((r1 (Int32.toNatClampNeg 3)) ||| nI m)) = some (nI S) ∧ fX4_bits (nI S) = some (nI q) ∧ (q = 10 ↔ allV L m v) := by
  have hD := hV.2.2.2.2.2.2.2.1
  have hx : eD L ||| m < 2 ^ 7 := Nat.or_lt_two_pow hD hm
  have hV' := lv_sD (v := eD L ||| m) hV hx
  obtain ⟨r1, q1, hR1⟩ := rx_copy (r2 := r2) hR
  have hR2 := rr_sD (v := eD L ||| m) hR1
  have hb := brs_lt (sD L (eD L ||| m)) v
  refine ⟨r1, brs (sD L (eD L ||| m)) v, bitsN (brs (sD L (eD L ||| m)) v) 16, bitsN_le _ 16, q1, ?_, bits_eq (by omega), ten_iff _ v⟩
  rw [cl_3, hR1.2.2.2.1, n_or]
  exact rx_brs hR2 hV' (by omega)
theorem bits_o {S : Nat} (hS : S < 1024) : ∃ m, m ≤ 16 ∧ fJ6_bitCount_0f7a4 (nI S) = some (nI m) ∧ fX4_bits (nI S) = some (nI m) := ⟨bitsN S 16, bitsN_le _ 16, bitC S hS, bits_eq (by omega)⟩
set_option maxHeartbeats 2000000 in
theorem st_hide (yn : LandT) (ym : LandT) (yk : LandT) (yl : (Nat → Int32)) (yt : Int32) (yd : Int32) (yu : (Nat → Int32)) (ye : (Nat → Int32)) (yv : (Nat → Int32)) (yo : (Nat → Int64)) (y0 : (Nat → Int32)) (y1 : (Nat → Int32)) (yc : Int32) (yh : Int32) (xs : (Nat → Int32)) (xm : (Nat → Int32)) (xi : (Nat → Int32)) (xw : (Nat → Int32)) (xh : Int32) (xl : (Nat → Int32)) (xr : (Nat → Int32)) (xe : (Nat → Int32)) (xn : Int32) (xo : Int32) (xp : Int32) (xu : (Nat → Int32)) (xd : Int32) (v1 : Int32) (hI : Inv yn yk yl yt yu ye yc yh xs xi xh xl xr xe xn xo) : ∃ (ra : Int32 × (Nat → Int32) × (Nat → Int32)) (rb : Int32 × (Nat → Int32) × (Nat → Int32)), fX3_hide v1 yn ye yv = some ra ∧ fX4_hide v1 xs xm xe = some rb ∧ ra.1 = rb.1 ∧ Inv yn yk yl yt yu ra.2.1 yc yh xs xi xh xl xr rb.2.2 xn xo := by
  obtain ⟨⟨L, hS, hG, hR⟩, h2, h3, h4, h5⟩ := id hI
  have hV := hS.1
  have hT := hS.2
  have hN := hV.2.2.2.2.2.2.1
  unfold fX3_hide fX4_hide
  rcases cs_verdict v1 with ⟨ea0, eb0⟩ | ⟨v, hv, rfl, ea0, eb0⟩
  · obtain ⟨u, w, q1, q2, q3⟩ := rf h5 (c := -2) (k := 2) (by omega) rfl
    simp only [ea0, eb0, Option.bind_some, if_true, i_n1, i_m1, i_m2, i_m4, i_m6]
    rw [q1, q2]
    exact ⟨_, _, rfl, rfl, rfl, inv_ref hI q3⟩
  have hv2 : v ≤ 2 := by omega
  obtain ⟨t4, k1, k2⟩ := lp_rel (body := bX3_hide_16 yn) (s0 := (0, yv)) (fun i s => s.1 = nI i ∧ ∀ b, b < i → s.2 b = nI (sght L b)) (fun t => ∀ b, b < 10 → t b = nI (sght L b)) 10 (by
    rintro i ⟨s1, s2⟩ hi ⟨e1, e2⟩
    dsimp only at e1 e2
    subst e1
    dsimp only [bX3_hide_16]
    rw [if_len (u := 10) (a := 10) rfl rfl (by omega) (by omega), if_neg (by omega), gx_sight hG hV (by omega)]
    simp only [bsm, nI_1]
    rw [if_ob (show i < 10 by omega) (by omega), cl (by omega)]
    refine ⟨_, rfl, rfl, fun b hb => ?_⟩
    by_cases e : b = i
    · rw [e]
      exact pk_us
    · exact (pk_un e).trans (e2 b (by omega))) (by
    rintro ⟨s1, s2⟩ ⟨e1, e2⟩
    dsimp only at e1 e2
    subst e1
    exact ⟨_, rfl, e2⟩) (by omega) ⟨rfl, fun b hb => absurd hb (Nat.not_lt_zero b)⟩
  have hp : 2 ^ eN L ≤ 2 ^ 7 := Nat.pow_le_pow_right (by omega) hN
  obtain ⟨x, y, h6, h7, h8⟩ := lp_sim (bA := bX3_hide_47 (nI v) yn t4) (bB := bX4_hide_19 (nI v) xs) (a := (-9, 0)) (b := (-9, 0, xm)) (fun i s s' => s.1 = s'.1 ∧ s.2 = nI i ∧ s'.2.1 = nI i ∧ (s.1 = -9 ∨ ∃ f, f < 128 ∧ s.1 = nI f)) (fun x y => x = y.1) (2 ^ eN L) (by omega) (by
    rintro i ⟨s1, s2⟩ ⟨z1, z2, z3⟩ hi ⟨e1, e2, e3, e4⟩
    dsimp only at e1 e2 e3 e4
    subst e1; subst e2; subst e3
    dsimp only [bX3_hide_47, bX4_hide_19]
    rw [hG.2.2.2.2.2.2.2.1, cl_0, hR.1, n_shl (eN L) (by omega), if_len rfl rfl (by omega) (by omega), if_len rfl rfl (by omega) (by omega)]
    by_cases h : 2 ^ eN L ≤ i
    · rw [if_pos h, if_pos h]
      exact Or.inr ⟨_, _, rfl, rfl, rfl⟩
    · refine Or.inl ⟨by omega, ?_⟩
      obtain ⟨r1, S, q, hq, j1, j2, j3, j4⟩ := rx_evr (r2 := z3) hR hV (m := i) (v := v) (by omega) hv2
      obtain ⟨mi, hmi, j5, j6⟩ := bits_o (S := i) (by omega)
      rw [if_neg h, if_neg h]
      rcases e4 with rfl | ⟨f, hf, rfl⟩
      · rw [if_pos rfl, if_pos (show (-9 : Int32) < 0 by decide), j1]
        simp only [bsm, i_n1, j2, j3, nI_1]
        rw [if_eqn (v := 10) (k := 10) rfl (by omega) (by omega)]
        rcases gx_evr hG hV k2 (m := i) (v := v) (by omega) hv2 with ⟨p1, p2⟩ | ⟨p1, p2⟩
        · rw [p1, if_pos (j4.mpr p2)]
          simp only [bsm, i_n1]
          exact ⟨_, _, rfl, rfl, rfl, rfl, rfl, Or.inr ⟨i, by omega, rfl⟩⟩
        · rw [p1, if_neg (fun q => p2 (j4.mp q))]
          simp only [bsm, if_true]
          exact ⟨_, _, rfl, rfl, rfl, rfl, rfl, Or.inl rfl⟩
      · have hpm : ¬ nI f = -9 := fun q => by
          have h6 := n_m9 (a := f) (by omega)
          rw [q] at h6
          exact absurd h6 (by decide)
        obtain ⟨mf, hmf, j7, j8⟩ := bits_o (S := f) (by omega)
        rw [if_neg hpm, if_neg (nI_pos (n := f) (by omega)), j5, j6]
        simp only [bsm, j7, j8, nI_1]
        rw [i_le]
        by_cases h3 : nI mi < nI mf
        · rw [if_pos h3, if_pos h3, j1]
          simp only [bsm, i_n1, j2, j3, nI_1]
          rw [if_eqn (v := 10) (k := 10) rfl (by omega) (by omega)]
          rcases gx_evr hG hV k2 (m := i) (v := v) (by omega) hv2 with ⟨p1, p2⟩ | ⟨p1, p2⟩
          · rw [p1, if_pos (j4.mpr p2)]
            simp only [bsm, i_n1]
            exact ⟨_, _, rfl, rfl, rfl, rfl, rfl, Or.inr ⟨i, by omega, rfl⟩⟩
          · rw [p1, if_neg (fun q => p2 (j4.mp q))]
            simp only [bsm, if_true]
            exact ⟨_, _, rfl, rfl, rfl, rfl, rfl, Or.inr ⟨f, hf, rfl⟩⟩
        · rw [if_neg h3, if_neg h3]
          simp only [bsm, if_true]
          exact ⟨_, _, rfl, rfl, rfl, rfl, rfl, Or.inr ⟨f, hf, rfl⟩⟩) ⟨rfl, rfl, rfl, Or.inl rfl⟩
  simp only [ea0, eb0, bsm, if_true, i_n1, i_m1, i_m2, i_m4, i_m6, k1, h6, h7]
  exact ⟨_, _, rfl, rfl, h8, hI⟩
