/-! ===== the law: calls on one of two worlds that stand side by side ===== -/
theorem Hs.right {D : va_G} {A : Nat → Prop} {H0 H H1 : Heap} {locs locs1 : List Loc} {wa wb wb' : va_W} (hH : Hs D A H0 (wa ++ wb) H locs) (ha : wb'.map (·.1) = wb.map (·.1)) (hk : ∀ q : Nat, q < H.size → ¬ va_A wb H.size q → H1[q]? = H[q]?) (hP1 : va_P D vwCl wb' H1) (hS : va_S A H0 H1 locs1) : Hs D A H0 (wa ++ wb') H1 locs1 := by
  obtain ⟨hP, hD, -⟩ := hH
  refine ⟨fun k q hq => ?_, hD.addr (by rw [List.map_append, List.map_append, ha]), hS⟩
  by_cases h : k < wa.length
  · rw [List.getElem?_append_left h] at hq
    have hq0 : (wa ++ wb)[k]? = some q := by rw [List.getElem?_append_left h]; exact hq
    refine (hP k q hq0).kept (hk q.1 (hP k q hq0).lt (fun hA => ?_))
    rcases hA with ⟨k2, e, h2⟩ | h2
    · have h3 : (wa ++ wb)[wa.length + k2]? = some (q.1, e) := by rw [List.getElem?_append_right (by omega), Nat.add_sub_cancel_left]; exact h2
      have := hD.1 k _ q (q.1, e) hq0 h3 rfl
      omega
    · have := (hP k q hq0).lt
      omega
  · rw [List.getElem?_append_right (by omega)] at hq
    exact hP1 _ q hq
theorem Hs.left {D : va_G} {A : Nat → Prop} {H0 H H1 : Heap} {locs locs1 : List Loc} {wa wb wa' : va_W} (hH : Hs D A H0 (wa ++ wb) H locs) (ha : wa'.map (·.1) = wa.map (·.1)) (hk : ∀ q : Nat, q < H.size → ¬ va_A wa H.size q → H1[q]? = H[q]?) (hP1 : va_P D vwCl wa' H1) (hS : va_S A H0 H1 locs1) : Hs D A H0 (wa' ++ wb) H1 locs1 := by
  obtain ⟨hP, hD, -⟩ := hH
  have hlen : wa'.length = wa.length := by
    have := congrArg List.length ha
    simpa using this
  refine ⟨fun k q hq => ?_, hD.addr (by rw [List.map_append, List.map_append, ha]), hS⟩
  by_cases h : k < wa.length
  · rw [List.getElem?_append_left (by omega)] at hq
    exact hP1 _ q hq
  · rw [List.getElem?_append_right (by omega), hlen] at hq
    have hq0 : (wa ++ wb)[k]? = some q := by rw [List.getElem?_append_right (by omega)]; exact hq
    refine (hP k q hq0).kept (hk q.1 (hP k q hq0).lt (fun hA => ?_))
    rcases hA with ⟨k2, e, h2⟩ | h2
    · have hk2 : k2 < wa.length := (List.getElem?_eq_some_iff.mp h2).1
      have h3 : (wa ++ wb)[k2]? = some (q.1, e) := by rw [List.getElem?_append_left hk2]; exact h2
      have := hD.1 k _ q (q.1, e) hq0 h3 rfl
      omega
    · have := (hP k q hq0).lt
      omega
theorem va_P.lft {D : va_G} {cl : List vw_C} {wa wb : va_W} {H : Heap} (h : va_P D cl (wa ++ wb) H) : va_P D cl wa H := fun k q hk => h k q (by rw [List.getElem?_append_left (List.getElem?_eq_some_iff.mp hk).1]; exact hk)
theorem va_P.rgt {D : va_G} {cl : List vw_C} {wa wb : va_W} {H : Heap} (h : va_P D cl (wa ++ wb) H) : va_P D cl wb H := fun k q hk => h (wa.length + k) q (by rw [List.getElem?_append_right (by omega), Nat.add_sub_cancel_left]; exact hk)
theorem va_D.lft {A : Nat → Prop} {wa wb : va_W} (h : va_D A (wa ++ wb)) : va_D A wa := ⟨fun i j p q hi hj e => h.1 i j p q (by rw [List.getElem?_append_left (List.getElem?_eq_some_iff.mp hi).1]; exact hi) (by rw [List.getElem?_append_left (List.getElem?_eq_some_iff.mp hj).1]; exact hj) e, fun k q hk => h.2 k q (by rw [List.getElem?_append_left (List.getElem?_eq_some_iff.mp hk).1]; exact hk)⟩
theorem va_D.rgt {A : Nat → Prop} {wa wb : va_W} (h : va_D A (wa ++ wb)) : va_D A wb := ⟨fun i j p q hi hj e => by
    have := h.1 (wa.length + i) (wa.length + j) p q (by rw [List.getElem?_append_right (by omega), Nat.add_sub_cancel_left]; exact hi) (by rw [List.getElem?_append_right (by omega), Nat.add_sub_cancel_left]; exact hj) e
    omega, fun k q hk => h.2 (wa.length + k) q (by rw [List.getElem?_append_right (by omega), Nat.add_sub_cancel_left]; exact hk)⟩
section LROWS
variable {p : Program} {l : Launch} {e : Env} {R : Room} {s : State} {m : MethodId} {args : Array Value} {below : List Frame} {meth : Method} {c : Code} {H : Heap} {locs : List Loc} {cells slots : Nat} {Q : State → Prop} {cc : ByteArray} {pc nL : Nat} {ls : Array Slot} {rest st0 : List Value} {D : va_G} {cI cJ cQ : ClassId} {A : Nat → Prop} {a : Nat} {ws : va_W} {Ts : List Cond} {own : String}
variable {aK aV : Nat → Nat}
theorem k_ViL (F : CallFix p m c cc nL s args Ts own) (hK : KK D cI cJ cQ s) {wa wb wa' : va_W} (hH : Hs D A s.heap (wa ++ wb) H locs) (hA : ∀ q, s.heap.size ≤ q → A q) (hl : ls.size = nL) (hcs : cells ≤ R.cells ∧ slots ≤ R.slots) {y : MethodName} {bytes : ByteArray} {maxL n index : Nat} {ret : Option FieldType} {wsc : List Cond} {rm : Room} {r : Int32} {C : String} {b : Nat} (As rest : List Value) (hM : CtI l D cI cJ cQ y wsc rm (.ref b :: As) wa r wa') (cw : CallW R s args own C index y bytes maxL ret wsc rm 0 0 n) (hdg : decode cc pc = .ok (.invokevirtual index, 3)) {ci : Nat} {fs : List Value} {q : vw_C} (he : wa[0]? = some (b, .inr (ci, fs))) (hc : vwCl[ci]? = some q) (hqC : q.1 = C) (hn : As.length = n) (hst : st0 = As.reverse ++ .ref b :: rest) (hW : (rest.map fun v => v.category).sum ≤ 8) (ha : wa'.map (·.1) = wa.map (·.1))
    (kk : ∀ (H1 : Heap) (locs1 : List Loc), Hs D A s.heap (wa' ++ wb) H1 locs1 → W p l e R s m args below meth c H1 locs1 cells slots Q (F0 m (pc + 3) ls (.int r :: rest))) : W p l e R s m args below meth c H locs cells slots Q (F0 m pc ls st0) := by
  subst hqC
  have hPc : va_P D vwCl wa H := hH.1.lft
  have hDc : va_D A wa := hH.2.1.lft
  have hFc : ∀ q, va_A wa H.size q → A q := fun q h => by
    rcases h with ⟨k, e, h⟩ | h
    · exact hDc.2 k _ h
    · exact hA q (Nat.le_trans hH.2.2.1 h)
  refine va_calli (va_runV F (hM H.size) cw ⟨ctP.blind, va_recv hK.1 hPc hc he, ctP.pre hK hPc hDc⟩ rfl hn hl hst (lv_room hW) hdg hcs) hH.2.2 (fun q _ h => hFc q h) hFc (fun r' u t H1 locs1 ht hvm hw hB hz1 hk1 hS => ?_)
  subst hw
  exact kk H1 locs1 (hH.left ha hk1 (by rw [← ht]; exact hB) hS)
theorem k_ViLT (F : CallFix p m c cc nL s args Ts own) (hK : KK D cI cJ cQ s) (hT : TXF aK aV A s s.heap) {wa wb wa' : va_W} (hH : Hs D A s.heap (wa ++ wb) H locs) (hA : ∀ q, s.heap.size ≤ q → A q) (hl : ls.size = nL) (hcs : cells ≤ R.cells ∧ slots ≤ R.slots) {y : MethodName} {bytes : ByteArray} {maxL n index : Nat} {ret : Option FieldType} {wsc : List Cond} {rm : Room} {r : Int32} {C : String} {b : Nat} (As rest : List Value) (hM : CtIT l D cI cJ cQ aK aV y wsc rm (.ref b :: As) wa r wa') (cw : CallW R s args own C index y bytes maxL ret wsc rm 0 0 n) (hdg : decode cc pc = .ok (.invokevirtual index, 3)) {ci : Nat} {fs : List Value} {q : vw_C} (he : wa[0]? = some (b, .inr (ci, fs))) (hc : vwCl[ci]? = some q) (hqC : q.1 = C) (hn : As.length = n) (hst : st0 = As.reverse ++ .ref b :: rest) (hW : (rest.map fun v => v.category).sum ≤ 8) (ha : wa'.map (·.1) = wa.map (·.1))
    (kk : ∀ (H1 : Heap) (locs1 : List Loc), Hs D A s.heap (wa' ++ wb) H1 locs1 → W p l e R s m args below meth c H1 locs1 cells slots Q (F0 m (pc + 3) ls (.int r :: rest))) : W p l e R s m args below meth c H locs cells slots Q (F0 m pc ls st0) := by
  subst hqC
  have hPc : va_P D vwCl wa H := hH.1.lft
  have hDc : va_D A wa := hH.2.1.lft
  have hFc : ∀ q, va_A wa H.size q → A q := fun q h => by
    rcases h with ⟨k, e, h⟩ | h
    · exact hDc.2 k _ h
    · exact hA q (Nat.le_trans hH.2.2.1 h)
  refine va_calli (va_runV F (hM H.size) cw ⟨ctPT.blind, va_recv hK.1 hPc hc he, ctPT.pre hK hT hH.2.2 hFc hPc hDc⟩ rfl hn hl hst (lv_room hW) hdg hcs) hH.2.2 (fun q _ h => hFc q h) hFc (fun r' u t H1 locs1 ht hvm hw hB hz1 hk1 hS => ?_)
  subst hw
  exact kk H1 locs1 (hH.left ha hk1 (by rw [← ht]; exact hB) hS)
theorem k_ViR (F : CallFix p m c cc nL s args Ts own) (hK : KK D cI cJ cQ s) {wa wb wb' : va_W} (hH : Hs D A s.heap (wa ++ wb) H locs) (hA : ∀ q, s.heap.size ≤ q → A q) (hl : ls.size = nL) (hcs : cells ≤ R.cells ∧ slots ≤ R.slots) {y : MethodName} {bytes : ByteArray} {maxL n index : Nat} {ret : Option FieldType} {wsc : List Cond} {rm : Room} {r : Int32} {C : String} {b : Nat} (As rest : List Value) (hM : CtI l D cI cJ cQ y wsc rm (.ref b :: As) wb r wb') (cw : CallW R s args own C index y bytes maxL ret wsc rm 0 0 n) (hdg : decode cc pc = .ok (.invokevirtual index, 3)) {ci : Nat} {fs : List Value} {q : vw_C} (he : wb[0]? = some (b, .inr (ci, fs))) (hc : vwCl[ci]? = some q) (hqC : q.1 = C) (hn : As.length = n) (hst : st0 = As.reverse ++ .ref b :: rest) (hW : (rest.map fun v => v.category).sum ≤ 8) (ha : wb'.map (·.1) = wb.map (·.1))
    (kk : ∀ (H1 : Heap) (locs1 : List Loc), Hs D A s.heap (wa ++ wb') H1 locs1 → W p l e R s m args below meth c H1 locs1 cells slots Q (F0 m (pc + 3) ls (.int r :: rest))) : W p l e R s m args below meth c H locs cells slots Q (F0 m pc ls st0) := by
  subst hqC
  have hPc : va_P D vwCl wb H := hH.1.rgt
  have hDc : va_D A wb := hH.2.1.rgt
  have hFc : ∀ q, va_A wb H.size q → A q := fun q h => by
    rcases h with ⟨k, e, h⟩ | h
    · exact hDc.2 k _ h
    · exact hA q (Nat.le_trans hH.2.2.1 h)
  refine va_calli (va_runV F (hM H.size) cw ⟨ctP.blind, va_recv hK.1 hPc hc he, ctP.pre hK hPc hDc⟩ rfl hn hl hst (lv_room hW) hdg hcs) hH.2.2 (fun q _ h => hFc q h) hFc (fun r' u t H1 locs1 ht hvm hw hB hz1 hk1 hS => ?_)
  subst hw
  exact kk H1 locs1 (hH.right ha hk1 (by rw [← ht]; exact hB) hS)
theorem k_VlL (F : CallFix p m c cc nL s args Ts own) (hK : KK D cI cJ cQ s) {wa wb wa' : va_W} (hH : Hs D A s.heap (wa ++ wb) H locs) (hA : ∀ q, s.heap.size ≤ q → A q) (hl : ls.size = nL) (hcs : cells ≤ R.cells ∧ slots ≤ R.slots) {y : MethodName} {bytes : ByteArray} {maxL n index : Nat} {ret : Option FieldType} {wsc : List Cond} {rm : Room} {r : Int64} {C : String} {b : Nat} (As rest : List Value) (hM : CtL l D cI cJ cQ y wsc rm (.ref b :: As) wa r wa') (cw : CallW R s args own C index y bytes maxL ret wsc rm 0 0 n) (hdg : decode cc pc = .ok (.invokevirtual index, 3)) {ci : Nat} {fs : List Value} {q : vw_C} (he : wa[0]? = some (b, .inr (ci, fs))) (hc : vwCl[ci]? = some q) (hqC : q.1 = C) (hn : As.length = n) (hst : st0 = As.reverse ++ .ref b :: rest) (hW : (rest.map fun v => v.category).sum ≤ 8) (ha : wa'.map (·.1) = wa.map (·.1))
    (kk : ∀ (H1 : Heap) (locs1 : List Loc), Hs D A s.heap (wa' ++ wb) H1 locs1 → W p l e R s m args below meth c H1 locs1 cells slots Q (F0 m (pc + 3) ls (.long r :: rest))) : W p l e R s m args below meth c H locs cells slots Q (F0 m pc ls st0) := by
  subst hqC
  have hPc : va_P D vwCl wa H := hH.1.lft
  have hDc : va_D A wa := hH.2.1.lft
  have hFc : ∀ q, va_A wa H.size q → A q := fun q h => by
    rcases h with ⟨k, e, h⟩ | h
    · exact hDc.2 k _ h
    · exact hA q (Nat.le_trans hH.2.2.1 h)
  refine va_calll (va_runV F (hM H.size) cw ⟨ctP.blind, va_recv hK.1 hPc hc he, ctP.pre hK hPc hDc⟩ rfl hn hl hst (lv_room hW) hdg hcs) hH.2.2 (fun q _ h => hFc q h) hFc (fun r' u t H1 locs1 ht hvm hw hB hz1 hk1 hS => ?_)
  subst hw
  exact kk H1 locs1 (hH.left ha hk1 (by rw [← ht]; exact hB) hS)
theorem k_VlR (F : CallFix p m c cc nL s args Ts own) (hK : KK D cI cJ cQ s) {wa wb wb' : va_W} (hH : Hs D A s.heap (wa ++ wb) H locs) (hA : ∀ q, s.heap.size ≤ q → A q) (hl : ls.size = nL) (hcs : cells ≤ R.cells ∧ slots ≤ R.slots) {y : MethodName} {bytes : ByteArray} {maxL n index : Nat} {ret : Option FieldType} {wsc : List Cond} {rm : Room} {r : Int64} {C : String} {b : Nat} (As rest : List Value) (hM : CtL l D cI cJ cQ y wsc rm (.ref b :: As) wb r wb') (cw : CallW R s args own C index y bytes maxL ret wsc rm 0 0 n) (hdg : decode cc pc = .ok (.invokevirtual index, 3)) {ci : Nat} {fs : List Value} {q : vw_C} (he : wb[0]? = some (b, .inr (ci, fs))) (hc : vwCl[ci]? = some q) (hqC : q.1 = C) (hn : As.length = n) (hst : st0 = As.reverse ++ .ref b :: rest) (hW : (rest.map fun v => v.category).sum ≤ 8) (ha : wb'.map (·.1) = wb.map (·.1))
    (kk : ∀ (H1 : Heap) (locs1 : List Loc), Hs D A s.heap (wa ++ wb') H1 locs1 → W p l e R s m args below meth c H1 locs1 cells slots Q (F0 m (pc + 3) ls (.long r :: rest))) : W p l e R s m args below meth c H locs cells slots Q (F0 m pc ls st0) := by
  subst hqC
  have hPc : va_P D vwCl wb H := hH.1.rgt
  have hDc : va_D A wb := hH.2.1.rgt
  have hFc : ∀ q, va_A wb H.size q → A q := fun q h => by
    rcases h with ⟨k, e, h⟩ | h
    · exact hDc.2 k _ h
    · exact hA q (Nat.le_trans hH.2.2.1 h)
  refine va_calll (va_runV F (hM H.size) cw ⟨ctP.blind, va_recv hK.1 hPc hc he, ctP.pre hK hPc hDc⟩ rfl hn hl hst (lv_room hW) hdg hcs) hH.2.2 (fun q _ h => hFc q h) hFc (fun r' u t H1 locs1 ht hvm hw hB hz1 hk1 hS => ?_)
  subst hw
  exact kk H1 locs1 (hH.right ha hk1 (by rw [← ht]; exact hB) hS)
end LROWS
