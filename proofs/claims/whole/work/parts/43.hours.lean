/-! ===== lands with one number changed, on both sides ===== -/
def sH (L : LdN) (k v : Nat) : LdN := (fun j => if j = k then v else eH L j, eK L, eF L, eC L, eV L, eQ L, eN L, eD L, eE L, eT L)
def sK (L : LdN) (k v : Nat) : LdN := (eH L, fun j => if j = k then v else eK L j, eF L, eC L, eV L, eQ L, eN L, eD L, eE L, eT L)
def sF (L : LdN) (k v : Nat) : LdN := (eH L, eK L, fun j => if j = k then v else eF L j, eC L, eV L, eQ L, eN L, eD L, eE L, eT L)
def sC (L : LdN) (k v : Nat) : LdN := (eH L, eK L, eF L, fun j => if j = k then v else eC L j, eV L, eQ L, eN L, eD L, eE L, eT L)
def sV (L : LdN) (k v : Nat) : LdN := (eH L, eK L, eF L, eC L, fun j => if j = k then v else eV L j, eQ L, eN L, eD L, eE L, eT L)
def sQ (L : LdN) (k v : Nat) : LdN := (eH L, eK L, eF L, eC L, eV L, fun j => if j = k then v else eQ L j, eN L, eD L, eE L, eT L)
def sN (L : LdN) (v : Nat) : LdN := (eH L, eK L, eF L, eC L, eV L, eQ L, v, eD L, eE L, eT L)
def sD (L : LdN) (v : Nat) : LdN := (eH L, eK L, eF L, eC L, eV L, eQ L, eN L, v, eE L, eT L)
def sE (L : LdN) (v : Nat) : LdN := (eH L, eK L, eF L, eC L, eV L, eQ L, eN L, eD L, v, eT L)
def sT (L : LdN) (v : Nat) : LdN := (eH L, eK L, eF L, eC L, eV L, eQ L, eN L, eD L, eE L, v)
theorem rr_sH {r : Nat → Int32} {L : LdN} {k v : Nat} (hR : RR r L) (hk : k < 16) : RR (upd r (4 + k) (nI v)) (sH L k v) := by
  obtain ⟨rN, rT, rE, rD, rH, rV, rQ, rK, rF, rC⟩ := hR
  refine ⟨?_, ?_, ?_, ?_, ?_, ?_, ?_, ?_, ?_, ?_⟩
  · rw [pk_un (by omega)]; exact rN
  · rw [pk_un (by omega)]; exact rT
  · rw [pk_un (by omega)]; exact rE
  · rw [pk_un (by omega)]; exact rD
  · intro j hj
    by_cases e : j = k
    · subst e
      rw [pk_us]
      show nI v = nI (if j = j then v else eH L j)
      rw [if_pos rfl]
    · rw [pk_un (by omega)]
      show _ = nI (if j = k then v else eH L j)
      rw [if_neg e]
      exact rH j hj
  · intro j hj; rw [pk_un (by omega)]; exact rV j hj
  · intro j hj; rw [pk_un (by omega)]; exact rQ j hj
  · intro j hj; rw [pk_un (by omega)]; exact rK j hj
  · intro j hj; rw [pk_un (by omega)]; exact rF j hj
  · intro j hj; rw [pk_un (by omega)]; exact rC j hj
theorem rr_sK {r : Nat → Int32} {L : LdN} {k v : Nat} (hR : RR r L) (hk : k < 7) : RR (upd r (32 + 3 * k) (nI v)) (sK L k v) := by
  obtain ⟨rN, rT, rE, rD, rH, rV, rQ, rK, rF, rC⟩ := hR
  refine ⟨?_, ?_, ?_, ?_, ?_, ?_, ?_, ?_, ?_, ?_⟩
  · rw [pk_un (by omega)]; exact rN
  · rw [pk_un (by omega)]; exact rT
  · rw [pk_un (by omega)]; exact rE
  · rw [pk_un (by omega)]; exact rD
  · intro j hj; rw [pk_un (by omega)]; exact rH j hj
  · intro j hj; rw [pk_un (by omega)]; exact rV j hj
  · intro j hj; rw [pk_un (by omega)]; exact rQ j hj
  · intro j hj
    by_cases e : j = k
    · subst e
      rw [pk_us]
      show nI v = nI (if j = j then v else eK L j)
      rw [if_pos rfl]
    · rw [pk_un (by omega)]
      show _ = nI (if j = k then v else eK L j)
      rw [if_neg e]
      exact rK j hj
  · intro j hj; rw [pk_un (by omega)]; exact rF j hj
  · intro j hj; rw [pk_un (by omega)]; exact rC j hj
theorem rr_sF {r : Nat → Int32} {L : LdN} {k v : Nat} (hR : RR r L) (hk : k < 7) : RR (upd r (33 + 3 * k) (nI v)) (sF L k v) := by
  obtain ⟨rN, rT, rE, rD, rH, rV, rQ, rK, rF, rC⟩ := hR
  refine ⟨?_, ?_, ?_, ?_, ?_, ?_, ?_, ?_, ?_, ?_⟩
  · rw [pk_un (by omega)]; exact rN
  · rw [pk_un (by omega)]; exact rT
  · rw [pk_un (by omega)]; exact rE
  · rw [pk_un (by omega)]; exact rD
  · intro j hj; rw [pk_un (by omega)]; exact rH j hj
  · intro j hj; rw [pk_un (by omega)]; exact rV j hj
  · intro j hj; rw [pk_un (by omega)]; exact rQ j hj
  · intro j hj; rw [pk_un (by omega)]; exact rK j hj
  · intro j hj
    by_cases e : j = k
    · subst e
      rw [pk_us]
      show nI v = nI (if j = j then v else eF L j)
      rw [if_pos rfl]
    · rw [pk_un (by omega)]
      show _ = nI (if j = k then v else eF L j)
      rw [if_neg e]
      exact rF j hj
  · intro j hj; rw [pk_un (by omega)]; exact rC j hj
theorem rr_sC {r : Nat → Int32} {L : LdN} {k v : Nat} (hR : RR r L) (hk : k < 7) : RR (upd r (34 + 3 * k) (nI v)) (sC L k v) := by
  obtain ⟨rN, rT, rE, rD, rH, rV, rQ, rK, rF, rC⟩ := hR
  refine ⟨?_, ?_, ?_, ?_, ?_, ?_, ?_, ?_, ?_, ?_⟩
  · rw [pk_un (by omega)]; exact rN
  · rw [pk_un (by omega)]; exact rT
  · rw [pk_un (by omega)]; exact rE
  · rw [pk_un (by omega)]; exact rD
  · intro j hj; rw [pk_un (by omega)]; exact rH j hj
  · intro j hj; rw [pk_un (by omega)]; exact rV j hj
  · intro j hj; rw [pk_un (by omega)]; exact rQ j hj
  · intro j hj; rw [pk_un (by omega)]; exact rK j hj
  · intro j hj; rw [pk_un (by omega)]; exact rF j hj
  · intro j hj
    by_cases e : j = k
    · subst e
      rw [pk_us]
      show nI v = nI (if j = j then v else eC L j)
      rw [if_pos rfl]
    · rw [pk_un (by omega)]
      show _ = nI (if j = k then v else eC L j)
      rw [if_neg e]
      exact rC j hj
theorem rr_sV {r : Nat → Int32} {L : LdN} {k v : Nat} (hR : RR r L) (hk : k < 6) : RR (upd r (20 + k) (nI v)) (sV L k v) := by
  obtain ⟨rN, rT, rE, rD, rH, rV, rQ, rK, rF, rC⟩ := hR
  refine ⟨?_, ?_, ?_, ?_, ?_, ?_, ?_, ?_, ?_, ?_⟩
  · rw [pk_un (by omega)]; exact rN
  · rw [pk_un (by omega)]; exact rT
  · rw [pk_un (by omega)]; exact rE
  · rw [pk_un (by omega)]; exact rD
  · intro j hj; rw [pk_un (by omega)]; exact rH j hj
  · intro j hj
    by_cases e : j = k
    · subst e
      rw [pk_us]
      show nI v = nI (if j = j then v else eV L j)
      rw [if_pos rfl]
    · rw [pk_un (by omega)]
      show _ = nI (if j = k then v else eV L j)
      rw [if_neg e]
      exact rV j hj
  · intro j hj; rw [pk_un (by omega)]; exact rQ j hj
  · intro j hj; rw [pk_un (by omega)]; exact rK j hj
  · intro j hj; rw [pk_un (by omega)]; exact rF j hj
  · intro j hj; rw [pk_un (by omega)]; exact rC j hj
theorem rr_sQ {r : Nat → Int32} {L : LdN} {k v : Nat} (hR : RR r L) (hk : k < 6) : RR (upd r (26 + k) (nI v)) (sQ L k v) := by
  obtain ⟨rN, rT, rE, rD, rH, rV, rQ, rK, rF, rC⟩ := hR
  refine ⟨?_, ?_, ?_, ?_, ?_, ?_, ?_, ?_, ?_, ?_⟩
  · rw [pk_un (by omega)]; exact rN
  · rw [pk_un (by omega)]; exact rT
  · rw [pk_un (by omega)]; exact rE
  · rw [pk_un (by omega)]; exact rD
  · intro j hj; rw [pk_un (by omega)]; exact rH j hj
  · intro j hj; rw [pk_un (by omega)]; exact rV j hj
  · intro j hj
    by_cases e : j = k
    · subst e
      rw [pk_us]
      show nI v = nI (if j = j then v else eQ L j)
      rw [if_pos rfl]
    · rw [pk_un (by omega)]
      show _ = nI (if j = k then v else eQ L j)
      rw [if_neg e]
      exact rQ j hj
  · intro j hj; rw [pk_un (by omega)]; exact rK j hj
  · intro j hj; rw [pk_un (by omega)]; exact rF j hj
  · intro j hj; rw [pk_un (by omega)]; exact rC j hj
theorem rr_sN {r : Nat → Int32} {L : LdN} {v : Nat} (hR : RR r L) : RR (upd r 0 (nI v)) (sN L v) := by
  obtain ⟨rN, rT, rE, rD, rH, rV, rQ, rK, rF, rC⟩ := hR
  refine ⟨?_, ?_, ?_, ?_, ?_, ?_, ?_, ?_, ?_, ?_⟩
  · exact pk_us
  · rw [pk_un (by omega)]; exact rT
  · rw [pk_un (by omega)]; exact rE
  · rw [pk_un (by omega)]; exact rD
  · intro j hj; rw [pk_un (by omega)]; exact rH j hj
  · intro j hj; rw [pk_un (by omega)]; exact rV j hj
  · intro j hj; rw [pk_un (by omega)]; exact rQ j hj
  · intro j hj; rw [pk_un (by omega)]; exact rK j hj
  · intro j hj; rw [pk_un (by omega)]; exact rF j hj
  · intro j hj; rw [pk_un (by omega)]; exact rC j hj
theorem rr_sD {r : Nat → Int32} {L : LdN} {v : Nat} (hR : RR r L) : RR (upd r 3 (nI v)) (sD L v) := by
  obtain ⟨rN, rT, rE, rD, rH, rV, rQ, rK, rF, rC⟩ := hR
  refine ⟨?_, ?_, ?_, ?_, ?_, ?_, ?_, ?_, ?_, ?_⟩
  · rw [pk_un (by omega)]; exact rN
  · rw [pk_un (by omega)]; exact rT
  · rw [pk_un (by omega)]; exact rE
  · exact pk_us
  · intro j hj; rw [pk_un (by omega)]; exact rH j hj
  · intro j hj; rw [pk_un (by omega)]; exact rV j hj
  · intro j hj; rw [pk_un (by omega)]; exact rQ j hj
  · intro j hj; rw [pk_un (by omega)]; exact rK j hj
  · intro j hj; rw [pk_un (by omega)]; exact rF j hj
  · intro j hj; rw [pk_un (by omega)]; exact rC j hj
theorem rr_sE {r : Nat → Int32} {L : LdN} {v : Nat} (hR : RR r L) : RR (upd r 2 (nI v)) (sE L v) := by
  obtain ⟨rN, rT, rE, rD, rH, rV, rQ, rK, rF, rC⟩ := hR
  refine ⟨?_, ?_, ?_, ?_, ?_, ?_, ?_, ?_, ?_, ?_⟩
  · rw [pk_un (by omega)]; exact rN
  · rw [pk_un (by omega)]; exact rT
  · exact pk_us
  · rw [pk_un (by omega)]; exact rD
  · intro j hj; rw [pk_un (by omega)]; exact rH j hj
  · intro j hj; rw [pk_un (by omega)]; exact rV j hj
  · intro j hj; rw [pk_un (by omega)]; exact rQ j hj
  · intro j hj; rw [pk_un (by omega)]; exact rK j hj
  · intro j hj; rw [pk_un (by omega)]; exact rF j hj
  · intro j hj; rw [pk_un (by omega)]; exact rC j hj
theorem rr_sT {r : Nat → Int32} {L : LdN} {v : Nat} (hR : RR r L) : RR (upd r 1 (nI v)) (sT L v) := by
  obtain ⟨rN, rT, rE, rD, rH, rV, rQ, rK, rF, rC⟩ := hR
  refine ⟨?_, ?_, ?_, ?_, ?_, ?_, ?_, ?_, ?_, ?_⟩
  · rw [pk_un (by omega)]; exact rN
  · exact pk_us
  · rw [pk_un (by omega)]; exact rE
  · rw [pk_un (by omega)]; exact rD
  · intro j hj; rw [pk_un (by omega)]; exact rH j hj
  · intro j hj; rw [pk_un (by omega)]; exact rV j hj
  · intro j hj; rw [pk_un (by omega)]; exact rQ j hj
  · intro j hj; rw [pk_un (by omega)]; exact rK j hj
  · intro j hj; rw [pk_un (by omega)]; exact rF j hj
  · intro j hj; rw [pk_un (by omega)]; exact rC j hj
theorem gg_sK {g : LandT} {L : LdN} {k v : Nat} (hG : GR g L) : GR (gH g, gR g, upd (gK g) k (nI v), gF g, gP g, gV g, gQ g, gN g, gD g, gE g, gT g) (sK L k v) := by
  obtain ⟨gh, gr, gk, gf, gc, gv, gq, gn, gd, ge, gt⟩ := hG
  refine ⟨gh, gr, ?_, gf, gc, gv, gq, gn, gd, ge, gt⟩
  intro j hj
  show upd (gK g) k (nI v) j = nI (if j = k then v else eK L j)
  by_cases e : j = k
  · rw [e, pk_us, if_pos rfl]
  · rw [pk_un e, if_neg e]
    exact gk j hj
theorem gg_sF {g : LandT} {L : LdN} {k v : Nat} (hG : GR g L) : GR (gH g, gR g, gK g, upd (gF g) k (nI v), gP g, gV g, gQ g, gN g, gD g, gE g, gT g) (sF L k v) := by
  obtain ⟨gh, gr, gk, gf, gc, gv, gq, gn, gd, ge, gt⟩ := hG
  refine ⟨gh, gr, gk, ?_, gc, gv, gq, gn, gd, ge, gt⟩
  intro j hj
  show upd (gF g) k (nI v) j = nI (if j = k then v else eF L j)
  by_cases e : j = k
  · rw [e, pk_us, if_pos rfl]
  · rw [pk_un e, if_neg e]
    exact gf j hj
theorem gg_sC {g : LandT} {L : LdN} {k v : Nat} (hG : GR g L) : GR (gH g, gR g, gK g, gF g, upd (gP g) k (nI v), gV g, gQ g, gN g, gD g, gE g, gT g) (sC L k v) := by
  obtain ⟨gh, gr, gk, gf, gc, gv, gq, gn, gd, ge, gt⟩ := hG
  refine ⟨gh, gr, gk, gf, ?_, gv, gq, gn, gd, ge, gt⟩
  intro j hj
  show upd (gP g) k (nI v) j = nI (if j = k then v else eC L j)
  by_cases e : j = k
  · rw [e, pk_us, if_pos rfl]
  · rw [pk_un e, if_neg e]
    exact gc j hj
theorem gg_sV {g : LandT} {L : LdN} {k v : Nat} (hG : GR g L) : GR (gH g, gR g, gK g, gF g, gP g, upd (gV g) k (nI v), gQ g, gN g, gD g, gE g, gT g) (sV L k v) := by
  obtain ⟨gh, gr, gk, gf, gc, gv, gq, gn, gd, ge, gt⟩ := hG
  refine ⟨gh, gr, gk, gf, gc, ?_, gq, gn, gd, ge, gt⟩
  intro j hj
  show upd (gV g) k (nI v) j = nI (if j = k then v else eV L j)
  by_cases e : j = k
  · rw [e, pk_us, if_pos rfl]
  · rw [pk_un e, if_neg e]
    exact gv j hj
theorem gg_sQ {g : LandT} {L : LdN} {k v : Nat} (hG : GR g L) : GR (gH g, gR g, gK g, gF g, gP g, gV g, upd (gQ g) k (nI v), gN g, gD g, gE g, gT g) (sQ L k v) := by
  obtain ⟨gh, gr, gk, gf, gc, gv, gq, gn, gd, ge, gt⟩ := hG
  refine ⟨gh, gr, gk, gf, gc, gv, ?_, gn, gd, ge, gt⟩
  intro j hj
  show upd (gQ g) k (nI v) j = nI (if j = k then v else eQ L j)
  by_cases e : j = k
  · rw [e, pk_us, if_pos rfl]
  · rw [pk_un e, if_neg e]
    exact gq j hj
theorem gg_sN {g : LandT} {L : LdN} {v : Nat} (hG : GR g L) : GR (gH g, gR g, gK g, gF g, gP g, gV g, gQ g, nI v, gD g, gE g, gT g) (sN L v) := by
  obtain ⟨gh, gr, gk, gf, gc, gv, gq, gn, gd, ge, gt⟩ := hG
  exact ⟨gh, gr, gk, gf, gc, gv, gq, rfl, gd, ge, gt⟩
theorem gg_sD {g : LandT} {L : LdN} {v : Nat} (hG : GR g L) : GR (gH g, gR g, gK g, gF g, gP g, gV g, gQ g, gN g, nI v, gE g, gT g) (sD L v) := by
  obtain ⟨gh, gr, gk, gf, gc, gv, gq, gn, gd, ge, gt⟩ := hG
  exact ⟨gh, gr, gk, gf, gc, gv, gq, gn, rfl, ge, gt⟩
theorem gg_sE {g : LandT} {L : LdN} {v : Nat} (hG : GR g L) : GR (gH g, gR g, gK g, gF g, gP g, gV g, gQ g, gN g, gD g, nI v, gT g) (sE L v) := by
  obtain ⟨gh, gr, gk, gf, gc, gv, gq, gn, gd, ge, gt⟩ := hG
  exact ⟨gh, gr, gk, gf, gc, gv, gq, gn, gd, rfl, gt⟩
theorem gg_sT {g : LandT} {L : LdN} {v : Nat} (hG : GR g L) : GR (gH g, gR g, gK g, gF g, gP g, gV g, gQ g, gN g, gD g, gE g, nI v) (sT L v) := by
  obtain ⟨gh, gr, gk, gf, gc, gv, gq, gn, gd, ge, gt⟩ := hG
  exact ⟨gh, gr, gk, gf, gc, gv, gq, gn, gd, ge, rfl⟩
theorem lv_sH {L : LdN} {k v : Nat} (hV : LdV L) (hv : v ≤ 9) : LdV (sH L k v) := by
  obtain ⟨h0, h1, h2, h3, h4, h5, h6, h7, h8, h9⟩ := hV
  refine ⟨?_, h1, h2, h3, h4, h5, h6, h7, h8, h9⟩
  intro j
  show (if j = k then v else eH L j) ≤ _
  by_cases e : j = k
  · rw [if_pos e]; exact hv
  · rw [if_neg e]; exact h0 j
theorem lv_sK {L : LdN} {k v : Nat} (hV : LdV L) (hv : v < 6) : LdV (sK L k v) := by
  obtain ⟨h0, h1, h2, h3, h4, h5, h6, h7, h8, h9⟩ := hV
  refine ⟨h0, ?_, h2, h3, h4, h5, h6, h7, h8, h9⟩
  intro j
  show (if j = k then v else eK L j) < _
  by_cases e : j = k
  · rw [if_pos e]; exact hv
  · rw [if_neg e]; exact h1 j
theorem lv_sF {L : LdN} {k v : Nat} (hV : LdV L) (hv : v ≤ 9) : LdV (sF L k v) := by
  obtain ⟨h0, h1, h2, h3, h4, h5, h6, h7, h8, h9⟩ := hV
  refine ⟨h0, h1, ?_, h3, h4, h5, h6, h7, h8, h9⟩
  intro j
  show (if j = k then v else eF L j) ≤ _
  by_cases e : j = k
  · rw [if_pos e]; exact hv
  · rw [if_neg e]; exact h2 j
theorem lv_sC {L : LdN} {k v : Nat} (hV : LdV L) (hv : v < 16) : LdV (sC L k v) := by
  obtain ⟨h0, h1, h2, h3, h4, h5, h6, h7, h8, h9⟩ := hV
  refine ⟨h0, h1, h2, ?_, h4, h5, h6, h7, h8, h9⟩
  intro j
  show (if j = k then v else eC L j) < _
  by_cases e : j = k
  · rw [if_pos e]; exact hv
  · rw [if_neg e]; exact h3 j
theorem lv_sV {L : LdN} {k v : Nat} (hV : LdV L) (hv : v ≤ 2) : LdV (sV L k v) := by
  obtain ⟨h0, h1, h2, h3, h4, h5, h6, h7, h8, h9⟩ := hV
  refine ⟨h0, h1, h2, h3, ?_, h5, h6, h7, h8, h9⟩
  intro j
  show (if j = k then v else eV L j) ≤ _
  by_cases e : j = k
  · rw [if_pos e]; exact hv
  · rw [if_neg e]; exact h4 j
theorem lv_sQ {L : LdN} {k v : Nat} (hV : LdV L) (hv : v ≤ 10) : LdV (sQ L k v) := by
  obtain ⟨h0, h1, h2, h3, h4, h5, h6, h7, h8, h9⟩ := hV
  refine ⟨h0, h1, h2, h3, h4, ?_, h6, h7, h8, h9⟩
  intro j
  show (if j = k then v else eQ L j) ≤ _
  by_cases e : j = k
  · rw [if_pos e]; exact hv
  · rw [if_neg e]; exact h5 j
theorem lv_sN {L : LdN} {v : Nat} (hV : LdV L) (hv : v ≤ 7) : LdV (sN L v) := by
  obtain ⟨h0, h1, h2, h3, h4, h5, h6, h7, h8, h9⟩ := hV
  exact ⟨h0, h1, h2, h3, h4, h5, hv, h7, h8, h9⟩
theorem lv_sD {L : LdN} {v : Nat} (hV : LdV L) (hv : v < 128) : LdV (sD L v) := by
  obtain ⟨h0, h1, h2, h3, h4, h5, h6, h7, h8, h9⟩ := hV
  exact ⟨h0, h1, h2, h3, h4, h5, h6, hv, h8, h9⟩
theorem lv_sE {L : LdN} {v : Nat} (hV : LdV L) (hv : v ≤ 16) : LdV (sE L v) := by
  obtain ⟨h0, h1, h2, h3, h4, h5, h6, h7, h8, h9⟩ := hV
  exact ⟨h0, h1, h2, h3, h4, h5, h6, h7, hv, h9⟩
theorem lv_sT {L : LdN} {v : Nat} (hV : LdV L) (hv : v ≤ 4000) : LdV (sT L v) := by
  obtain ⟨h0, h1, h2, h3, h4, h5, h6, h7, h8, h9⟩ := hV
  exact ⟨h0, h1, h2, h3, h4, h5, h6, h7, h8, hv⟩
/-! loops by a relation -/
theorem lp_rel {σ ρ : Type} {body : σ → Option (σ ⊕ ρ)} (I : Nat → σ → Prop) (P : ρ → Prop) (n : Nat) (hs : ∀ i s, i < n → I i s → ∃ s', body s = some (.inl s') ∧ I (i + 1) s') (he : ∀ s, I n s → ∃ R, body s = some (.inr R) ∧ P R) (hn : n < 1000) {s0 : σ} (h0 : I 0 s0) : ∃ R, lp body fu s0 = some R ∧ P R := by
  have key : ∀ (k i : Nat), i + k = n → ∀ f, k < f → ∀ s, I i s → ∃ R, lp body f s = some R ∧ P R := by
    intro k
    induction k with
    | zero =>
      intro i hi f hf s hI
      obtain ⟨f, rfl⟩ : ∃ f', f = f' + 1 := ⟨f - 1, by omega⟩
      have : i = n := by omega
      subst this
      obtain ⟨R, h1, h2⟩ := he s hI
      refine ⟨R, ?_, h2⟩
      show (body s).bind _ = _
      rw [h1]
      rfl
    | succ k ih =>
      intro i hi f hf s hI
      obtain ⟨f, rfl⟩ : ∃ f', f = f' + 1 := ⟨f - 1, by omega⟩
      obtain ⟨s', h1, h2⟩ := hs i s (by omega) hI
      obtain ⟨R, h3, h4⟩ := ih (i + 1) (by omega) f (by omega) s' h2
      refine ⟨R, ?_, h4⟩
      show (body s).bind _ = _
      rw [h1]
      exact h3
  exact key n 0 (by omega) fu hn s0 h0

/-- the first i things have gone on -/
def hourP (L : LdN) (i : Nat) : LdN := (eH L, eK L, eF L, fun t => if t < i then (eC L t + goN (eK L t) (eF L t) (eT L + 1)) % 16 else eC L t, eV L, eQ L, eN L, eD L, eE L, eT L + 1)
def hourL (L : LdN) : LdN := hourP L (eN L)
def hrsL (L : LdN) : Nat → LdN
  | 0 => L
  | k + 1 => hourL (hrsL L k)
theorem hourP_0 (L : LdN) : hourP L 0 = sT L (eT L + 1) := by
  unfold hourP sT
  simp
theorem hourP_s (L : LdN) (i : Nat) : hourP L (i + 1) = sC (hourP L i) i ((eC L i + goN (eK L i) (eF L i) (eT L + 1)) % 16) := by
  unfold hourP sC
  have : (fun t => if t < i + 1 then (eC L t + goN (eK L t) (eF L t) (eT L + 1)) % 16 else eC L t) = (fun j => if j = i then (eC L i + goN (eK L i) (eF L i) (eT L + 1)) % 16 else (if j < i then (eC L j + goN (eK L j) (eF L j) (eT L + 1)) % 16 else eC L j)) := by
    funext j
    by_cases e : j = i
    · subst e
      rw [if_pos (by omega), if_pos rfl]
    · rw [if_neg e]
      by_cases e2 : j < i
      · rw [if_pos (by omega), if_pos e2]
      · rw [if_neg (by omega), if_neg e2]
  rw [this]
theorem hourP_V {L : LdN} (hV : LdV L) (hT : eT L + 1 ≤ 4000) (i : Nat) : LdV (hourP L i) := by
  obtain ⟨h0, h1, h2, h3, h4, h5, h6, h7, h8, h9⟩ := hV
  refine ⟨h0, h1, h2, ?_, h4, h5, h6, h7, h8, hT⟩
  intro t
  show (if t < i then _ else _) < 16
  by_cases e : t < i
  · rw [if_pos e]; exact Nat.mod_lt _ (by omega)
  · rw [if_neg e]; exact h3 t
theorem hrsL_T (L : LdN) : ∀ k, eT (hrsL L k) = eT L + k
  | 0 => rfl
  | k + 1 => by
    show eT (hrsL L k) + 1 = _
    rw [hrsL_T L k]
    omega
theorem hrsL_V {L : LdN} (hV : LdV L) : ∀ k, eT L + k ≤ 4000 → LdV (hrsL L k)
  | 0, _ => hV
  | k + 1, h => hourP_V (hrsL_V hV k (by omega)) (by rw [hrsL_T]; omega) _
theorem gx_goOn {g : LandT} {L : LdN} (hG : GR g L) {t w : Nat} (ht : t < 7) (hw : w ≤ 2) (hV : LdV L) : ∃ g', fX0_goOn (nI t) (nI w) g = some g' ∧ GR g' (sC L t ((eC L t + w) % 16)) := by
  have hC := hV.2.2.2.1 t
  unfold fX0_goOn
  rw [if_ob ht (by omega), if_ob ht (by omega), cl (by omega), hG.2.2.2.2.1 t ht, nI_add, show irem (nI (eC L t + w)) 16 = nI ((eC L t + w) % 16) from irem_n (d := 16) (by omega) (by omega) (by omega)]
  exact ⟨_, rfl, gg_sC hG⟩
theorem gx_hourIn {g : LandT} {L : LdN} (hG : GR g L) (hV : LdV L) (hT : eT L + 1 ≤ 4000) : ∃ g', lp bX0_passHours_19 fu (0, (gH g, gR g, gK g, gF g, gP g, gV g, gQ g, gN g, gD g, gE g, (gT g) + 1)) = some g' ∧ GR g' (hourL L) := by
  have hN := hV.2.2.2.2.2.2.1
  refine lp_rel (fun i s => s.1 = nI i ∧ GR s.2 (hourP L i)) (fun g' => GR g' (hourL L)) (eN L) ?_ ?_ (by omega) ?_
  · rintro i ⟨t1, g1⟩ hi ⟨e1, hG1⟩
    dsimp only at e1 hG1
    subst e1
    have hV1 := hourP_V hV hT i
    have gnv : gN g1 = nI (eN L) := hG1.2.2.2.2.2.2.2.1
    have gtv : gT g1 = nI (eT L + 1) := hG1.2.2.2.2.2.2.2.2.2.2
    have hst : fX0_stepsOf (nI i) (nI (eT L + 1)) g1 = some (nI (goN (eK L i) (eF L i) (eT L + 1))) := gx_steps hG1 hV1 (by omega) (by omega)
    dsimp only [bX0_passHours_19]
    rw [gnv, if_len rfl rfl (by omega) (by omega), if_neg (by omega), gtv, hst]
    simp only [Option.bind_some]
    obtain ⟨g2, h2, hG2⟩ := gx_goOn hG1 (t := i) (w := goN (eK L i) (eF L i) (eT L + 1)) (by omega) (goN_le _ _ _) hV1
    refine ⟨(nI i + 1, g2), ?_, nI_1 i, ?_⟩
    · show Option.bind (fX0_goOn (nI i) (nI (goN (eK L i) (eF L i) (eT L + 1))) g1) _ = _
      rw [h2]
      rfl
    · rw [hourP_s]
      have hc : eC (hourP L i) i = eC L i := by
        show (if i < i then _ else _) = _
        rw [if_neg (by omega)]
      rw [hc] at hG2
      exact hG2
  · rintro ⟨t1, g1⟩ ⟨e1, hG1⟩
    dsimp only at e1 hG1
    subst e1
    refine ⟨g1, ?_, hG1⟩
    have gnv : gN g1 = nI (eN L) := hG1.2.2.2.2.2.2.2.1
    dsimp only [bX0_passHours_19]
    rw [gnv, if_len rfl rfl (by omega) (by omega), if_pos (Nat.le_refl _)]
  · refine ⟨rfl, ?_⟩
    rw [hourP_0]
    have h := gg_sT (v := eT L + 1) hG
    rw [← nI_1, ← hG.2.2.2.2.2.2.2.2.2.2] at h
    exact h
theorem gx_pass {g : LandT} {L : LdN} (hG : GR g L) (hV : LdV L) {n : Nat} (hn : n ≤ 500) (hT : eT L + n ≤ 4000) : ∃ g', fX0_passHours (nI n) g = some g' ∧ GR g' (hrsL L n) := by
  unfold fX0_passHours
  obtain ⟨g', h1, h2⟩ := lp_rel (body := bX0_passHours_2 (nI n)) (s0 := (0, g)) (fun i s => s.1 = nI i ∧ GR s.2 (hrsL L i)) (fun g' => GR g' (hrsL L n)) n (by
    rintro i ⟨t1, g1⟩ hi ⟨e1, hG1⟩
    dsimp only at e1 hG1
    subst e1
    have hV1 := hrsL_V hV i (by omega)
    obtain ⟨g2, h2, hG2⟩ := gx_hourIn hG1 hV1 (by rw [hrsL_T]; omega)
    refine ⟨(nI i + 1, g2), ?_, nI_1 i, hG2⟩
    dsimp only [bX0_passHours_2]
    rw [if_len rfl rfl (by omega) (by omega), if_neg (by omega), h2]
    rfl) (by
    rintro ⟨t1, g1⟩ ⟨e1, hG1⟩
    dsimp only at e1 hG1
    subst e1
    refine ⟨g1, ?_, hG1⟩
    dsimp only [bX0_passHours_2]
    rw [if_len rfl rfl (by omega) (by omega), if_pos (Nat.le_refl n)]) (by omega) ⟨rfl, hG⟩
  refine ⟨g', ?_, h2⟩
  rw [h1]
  rfl
theorem rx_hour {r : Nat → Int32} {L : LdN} (hR : RR r L) (hV : LdV L) (hT : eT L + 1 ≤ 4000) : ∃ r', fX4_hour r = some r' ∧ RR r' (hourL L) := by
  have hN := hV.2.2.2.2.2.2.1
  unfold fX4_hour
  obtain ⟨r', h1, h2⟩ := lp_rel (body := bX4_hour_9) (s0 := (0, upd r (Int32.toNatClampNeg 1) ((r (Int32.toNatClampNeg 1)) + 1))) (fun i s => s.1 = nI i ∧ RR s.2 (hourP L i)) (fun r' => RR r' (hourL L)) (eN L) (by
    rintro i ⟨t1, r1⟩ hi ⟨e1, hR1⟩
    dsimp only at e1 hR1
    subst e1
    have hV1 := hourP_V hV hT i
    have hC := hV.2.2.2.1 i
    have hg := goN_le (eK L i) (eF L i) (eT L + 1)
    obtain ⟨rN, rT, rE, rD, rH, rV, rQ, rK, rF, rC⟩ := id hR1
    have rNv : r1 0 = nI (eN L) := rN
    have rKv : r1 (32 + 3 * i) = nI (eK L i) := rK i (by omega)
    have rFv : r1 (33 + 3 * i) = nI (eF L i) := rF i (by omega)
    have rTv : r1 1 = nI (eT L + 1) := rT
    have rCv : r1 (34 + 3 * i) = nI (eC L i) := by
      rw [rC i (by omega)]
      show nI (if i < i then _ else _) = _
      rw [if_neg (by omega)]
    refine ⟨(nI i + 1, upd r1 (34 + 3 * i) (nI ((eC L i + goN (eK L i) (eF L i) (eT L + 1)) % 16))), ?_, nI_1 i, ?_⟩
    · dsimp only [bX4_hour_9]
      rw [cl_0, rNv, if_len rfl rfl (by omega) (by omega), if_neg (by omega), of_0, of_1, of_2]
      simp only [Option.bind_some]
      simp only [if_ob (show 34 + 3 * i < 53 by omega) (show 53 < 2 ^ 31 by omega), if_ob (show 32 + 3 * i < 53 by omega) (show 53 < 2 ^ 31 by omega), if_ob (show 33 + 3 * i < 53 by omega) (show 53 < 2 ^ 31 by omega)]
      rw [cl (show 32 + 3 * i < 2 ^ 31 by omega), cl (show 33 + 3 * i < 2 ^ 31 by omega), cl (show 34 + 3 * i < 2 ^ 31 by omega), cl_1, rKv, rFv, rTv, rCv, goes_eq (hV.2.1 i) (hV.2.2.1 i) (by omega)]
      simp only [Option.bind_some]
      rw [nI_add, show irem (nI (eC L i + goN (eK L i) (eF L i) (eT L + 1))) 16 = nI ((eC L i + goN (eK L i) (eF L i) (eT L + 1)) % 16) from irem_n (d := 16) (by omega) (by omega) (by omega)]
    · rw [hourP_s]
      exact rr_sC hR1 (by omega)) (by
    rintro ⟨t1, r1⟩ ⟨e1, hR1⟩
    dsimp only at e1 hR1
    subst e1
    refine ⟨r1, ?_, hR1⟩
    have rNv : r1 0 = nI (eN L) := hR1.1
    dsimp only [bX4_hour_9]
    rw [cl_0, rNv, if_len rfl rfl (by omega) (by omega), if_pos (Nat.le_refl _)]) (by omega) (by
    refine ⟨rfl, ?_⟩
    rw [hourP_0]
    have h := rr_sT (v := eT L + 1) hR
    rw [← nI_1, ← hR.2.1] at h
    exact h)
  refine ⟨r', ?_, h2⟩
  rw [h1]
  rfl
theorem rx_hoursOn {r : Nat → Int32} {L : LdN} (hR : RR r L) (hV : LdV L) {n : Nat} (hn : n ≤ 500) (hT : eT L + n ≤ 4000) : ∃ r', fX4_hoursOn (nI n) r = some r' ∧ RR r' (hrsL L n) := by
  unfold fX4_hoursOn
  obtain ⟨r', h1, h2⟩ := lp_rel (body := bX4_hoursOn_2 (nI n)) (s0 := (0, r)) (fun i s => s.1 = nI i ∧ RR s.2 (hrsL L i)) (fun r' => RR r' (hrsL L n)) n (by
    rintro i ⟨t1, r1⟩ hi ⟨e1, hR1⟩
    dsimp only at e1 hR1
    subst e1
    obtain ⟨r2, h2, hR2⟩ := rx_hour hR1 (hrsL_V hV i (by omega)) (by rw [hrsL_T]; omega)
    refine ⟨(nI i + 1, r2), ?_, nI_1 i, hR2⟩
    dsimp only [bX4_hoursOn_2]
    rw [if_len rfl rfl (by omega) (by omega), if_neg (by omega), h2]
    rfl) (by
    rintro ⟨t1, r1⟩ ⟨e1, hR1⟩
    dsimp only at e1 hR1
    subst e1
    refine ⟨r1, ?_, hR1⟩
    dsimp only [bX4_hoursOn_2]
    rw [if_len rfl rfl (by omega) (by omega), if_pos (Nat.le_refl n)]) (by omega) ⟨rfl, hR⟩
  refine ⟨r', ?_, h2⟩
  rw [h1]
  rfl
theorem rx_copies {r r2 : Nat → Int32} : ∃ r', fX4_copies r r2 = some r' ∧ ∀ k, k < 53 → r' k = r k := by
  unfold fX4_copies
  obtain ⟨r', h1, h2⟩ := lp_rel (body := bX4_copies_2 r) (s0 := (0, r2)) (fun i s => s.1 = nI i ∧ ∀ k, k < i → s.2 k = r k) (fun r' => ∀ k, k < 53 → r' k = r k) 53 (by
    rintro i ⟨t1, f⟩ hi ⟨e1, hf⟩
    dsimp only at e1 hf
    subst e1
    refine ⟨(nI i + 1, upd f i (r i)), ?_, nI_1 i, ?_⟩
    · dsimp only [bX4_copies_2]
      rw [if_len (u := 53) (a := 53) rfl rfl (by omega) (by omega), if_neg (by omega), if_ob hi (by omega), if_ob hi (by omega), cl (by omega)]
    · intro k hk
      dsimp only
      by_cases e : k = i
      · rw [e, pk_us]
      · rw [pk_un e]
        exact hf k (by omega)) (by
    rintro ⟨t1, f⟩ ⟨e1, hf⟩
    dsimp only at e1 hf
    subst e1
    refine ⟨f, ?_, hf⟩
    rfl) (by omega) ⟨rfl, fun k hk => absurd hk (Nat.not_lt_zero k)⟩
  refine ⟨r', ?_, h2⟩
  rw [h1]
  rfl
theorem rr_ext {r r' : Nat → Int32} {L : LdN} (hR : RR r L) (h : ∀ k, k < 53 → r' k = r k) : RR r' L := by
  obtain ⟨rN, rT, rE, rD, rH, rV, rQ, rK, rF, rC⟩ := hR
  refine ⟨?_, ?_, ?_, ?_, ?_, ?_, ?_, ?_, ?_, ?_⟩
  · rw [h 0 (by omega)]; exact rN
  · rw [h 1 (by omega)]; exact rT
  · rw [h 2 (by omega)]; exact rE
  · rw [h 3 (by omega)]; exact rD
  · intro j hj; rw [h _ (by omega)]; exact rH j hj
  · intro j hj; rw [h _ (by omega)]; exact rV j hj
  · intro j hj; rw [h _ (by omega)]; exact rQ j hj
  · intro j hj; rw [h _ (by omega)]; exact rK j hj
  · intro j hj; rw [h _ (by omega)]; exact rF j hj
  · intro j hj; rw [h _ (by omega)]; exact rC j hj
/-- the reference's copy holds what the row holds -/
theorem rx_copy {r r2 : Nat → Int32} {L : LdN} (hR : RR r L) : ∃ r', fX4_copies r r2 = some r' ∧ RR r' L := by
  obtain ⟨r', h1, h2⟩ := rx_copies (r := r) (r2 := r2)
  exact ⟨r', h1, rr_ext hR h2⟩
