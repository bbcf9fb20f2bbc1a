/-! ===== rows over Hs; calls; starts ===== -/
theorem arrV_ext {cA : ClassId} {N : Nat} {f g : Nat → Value} (h : ∀ j, j < N → f j = g j) : arrV cA N f = arrV cA N g := by
  unfold arrV
  congr 2
  funext j
  exact h j.val j.isLt
theorem Hs.ext {D : va_G} {A : Nat → Prop} {H0 : Heap} {ws : va_W} {H : Heap} {locs : List Loc} {q0 a N : Nat} {cA : ClassId} {f g : Nat → Int32} (hH : Hs D A H0 ws H locs) (he : ws[q0]? = some (a, .inl (cA, N, .inl f))) (h : ∀ j, j < N → f j = g j) : Hs D A H0 (ws.set q0 (a, .inl (cA, N, .inl g))) H locs := by
  have hlt : q0 < ws.length := (List.getElem?_eq_some_iff.mp he).1
  have hc : vp_cell cA (N, .inl f) = vp_cell cA (N, .inl g) := by
    rw [vp_cell_i, vp_cell_i]
    exact arrV_ext (fun j hj => by rw [h j hj])
  refine ⟨fun k q hk => ?_, hH.2.1.set he, hH.2.2⟩
  by_cases hq : q0 = k
  · subst hq
    rw [List.getElem?_set_self hlt] at hk
    cases hk
    have h0 := hH.1 q0 _ he
    show H[a]? = some (vp_cell cA (N, .inl g))
    rw [← hc]
    exact h0
  · rw [List.getElem?_set_ne hq] at hk
    exact hH.1 k q hk
section KROWS
variable {p : Program} {l : Launch} {e : Env} {R : Room} {s : State} {m : MethodId} {args : Array Value} {below : List Frame} {meth : Method} {c : Code} {H : Heap} {locs : List Loc} {cells slots : Nat} {Q : State → Prop} {cc : ByteArray} {pc nL : Nat} {ls : Array Slot} {rest st0 : List Value} {D : va_G} {cI cJ cQ : ClassId} {A : Nat → Prop} {a : Nat} {ws : va_W} {Ts : List Cond} {own : String}
theorem k_get (F : CallFix p m c cc nL s args Ts own) (hK : KK D cI cJ cQ s) (hH : Hs D A s.heap ws H locs) {C : String} {T : u_T} {N ci index : Nat} (q0 : Nat) {fs : List Value} (hin : ∀ w ∈ u_ws C T N, w ∈ Ts) (k : Nat) (hlk : Cond.fieldLink own index (T k).1 (T k).2.1 (T k).2.2.1 ∈ Ts) (hdg : decode cc pc = .ok (.getfield index, 3)) (he : ws[q0]? = some (a, .inr (ci, fs))) (hc : vwCl[ci]? = some (C, T, N)) (hk : k < N) {v : Value} (hv : fs[k]? = some v)
    (kk : W p l e R s m args below meth c H locs cells slots Q (F0 m (pc + 3) ls (v :: rest))) : W p l e R s m args below meth c H locs cells slots Q (F0 m pc ls (.ref a :: rest)) :=
  va_get F.1 F.2.1 F.2.2.2.2 hin F.2.2.2.1 hK.1 hH.1 q0 he hc k hk (F.2.2.2.2 _ hlk) (fun _ h => h) hv hdg kk
theorem k_put (F : CallFix p m c cc nL s args Ts own) (hK : KK D cI cJ cQ s) (hH : Hs D A s.heap ws H locs) {C : String} {T : u_T} {N ci index : Nat} (q0 : Nat) {fs : List Value} (hin : ∀ w ∈ u_ws C T N, w ∈ Ts) (ty0 : Nat → FieldType) (hty : ∀ k, k < N → parseFieldDescriptor (T k).2.2.1 = some (ty0 k)) (hnm : ∀ a, a < N → ∀ b, b < N → a ≠ b → (T a).2.1 ≠ (T b).2.1) (k : Nat) (hlk : Cond.fieldLink own index (T k).1 (T k).2.1 (T k).2.2.1 ∈ Ts) (hdg : decode cc pc = .ok (.putfield index, 3)) (he : ws[q0]? = some (a, .inr (ci, fs))) (hc : vwCl[ci]? = some (C, T, N)) (hk : k < N) (hfin : (T k).2.2.2 = false) {v : Value} (hn : narrow (ty0 k) v = v) (hfit : fits (ty0 k) v = true) (hl : k < fs.length)
    (kk : ∀ (H1 : Heap) (locs1 : List Loc), Hs D A s.heap (ws.set q0 (a, .inr (ci, fs.set k v))) H1 locs1 → W p l e R s m args below meth c H1 locs1 cells slots Q (F0 m (pc + 3) ls rest)) : W p l e R s m args below meth c H locs cells slots Q (F0 m pc ls (v :: .ref a :: rest)) :=
  va_put F.1 F.2.1 F.2.2.2.2 hin ty0 hty hnm F.2.2.2.1 hK.1 hH.1 hH.2.1 hH.2.2 q0 he hc k hk (F.2.2.2.2 _ hlk) (fun _ h => h) hfin (hty k hk) hn hfit hl hdg (fun H1 locs1 h1 h2 h3 => kk H1 locs1 ⟨h1, h2, h3⟩)
theorem k_iald (F : CallFix p m c cc nL s args Ts own) (hK : KK D cI cJ cQ s) (hH : Hs D A s.heap ws H locs) (q0 : Nat) {i : Int32} {n : Nat} {f : Nat → Int32} (hdg : decode cc pc = .ok (.iaload, 1)) (hin : ¬ (i < 0 ∨ n ≤ i.toNatClampNeg)) (ha : ws[q0]? = some (a, .inl (cI, n, .inl f)))
    (kk : W p l e R s m args below meth c H locs cells slots Q (F0 m (pc + 1) ls (.int (f i.toNatClampNeg) :: rest))) : W p l e R s m args below meth c H locs cells slots Q (F0 m pc ls (.int i :: .ref a :: rest)) :=
  va_iald F.1 F.2.1 hK.1 hH.1 q0 0 ha rfl hin hdg kk
theorem k_iast (F : CallFix p m c cc nL s args Ts own) (hK : KK D cI cJ cQ s) (hH : Hs D A s.heap ws H locs) (q0 : Nat) {i x : Int32} {n : Nat} {f : Nat → Int32} (hdg : decode cc pc = .ok (.iastore, 1)) (hin : ¬ (i < 0 ∨ n ≤ i.toNatClampNeg)) (ha : ws[q0]? = some (a, .inl (cI, n, .inl f)))
    (kk : ∀ (H1 : Heap) (locs1 : List Loc), Hs D A s.heap (ws.set q0 (a, .inl (cI, n, .inl (upd f i.toNatClampNeg x)))) H1 locs1 → W p l e R s m args below meth c H1 locs1 cells slots Q (F0 m (pc + 1) ls rest)) : W p l e R s m args below meth c H locs cells slots Q (F0 m pc ls (.int x :: .int i :: .ref a :: rest)) :=
  va_iast F.1 F.2.1 hK.1 hH.1 hH.2.1 hH.2.2 q0 0 ha rfl hin hdg (fun H1 locs1 h1 h2 h3 => kk H1 locs1 ⟨h1, h2, h3⟩)
theorem k_lald (F : CallFix p m c cc nL s args Ts own) (hK : KK D cI cJ cQ s) (hH : Hs D A s.heap ws H locs) (q0 : Nat) {i : Int32} {n : Nat} {f : Nat → Int64} (hdg : decode cc pc = .ok (.laload, 1)) (hin : ¬ (i < 0 ∨ n ≤ i.toNatClampNeg)) (ha : ws[q0]? = some (a, .inl (cJ, n, .inr (.inl f))))
    (kk : W p l e R s m args below meth c H locs cells slots Q (F0 m (pc + 1) ls (.long (f i.toNatClampNeg) :: rest))) : W p l e R s m args below meth c H locs cells slots Q (F0 m pc ls (.int i :: .ref a :: rest)) :=
  va_lald F.1 F.2.1 hK.1 hH.1 q0 1 ha rfl hin hdg kk
theorem k_last (F : CallFix p m c cc nL s args Ts own) (hK : KK D cI cJ cQ s) (hH : Hs D A s.heap ws H locs) (q0 : Nat) {i : Int32} {x : Int64} {n : Nat} {f : Nat → Int64} (hdg : decode cc pc = .ok (.lastore, 1)) (hin : ¬ (i < 0 ∨ n ≤ i.toNatClampNeg)) (ha : ws[q0]? = some (a, .inl (cJ, n, .inr (.inl f))))
    (kk : ∀ (H1 : Heap) (locs1 : List Loc), Hs D A s.heap (ws.set q0 (a, .inl (cJ, n, .inr (.inl (vp_updL f i.toNatClampNeg x))))) H1 locs1 → W p l e R s m args below meth c H1 locs1 cells slots Q (F0 m (pc + 1) ls rest)) : W p l e R s m args below meth c H locs cells slots Q (F0 m pc ls (.long x :: .int i :: .ref a :: rest)) :=
  va_last F.1 F.2.1 hK.1 hH.1 hH.2.1 hH.2.2 q0 1 ha rfl hin hdg (fun H1 locs1 h1 h2 h3 => kk H1 locs1 ⟨h1, h2, h3⟩)
theorem k_aald (F : CallFix p m c cc nL s args Ts own) (hK : KK D cI cJ cQ s) (hH : Hs D A s.heap ws H locs) (q0 : Nat) {i : Int32} {n : Nat} {f : Nat → Option Nat} (hdg : decode cc pc = .ok (.aaload, 1)) (hin : ¬ (i < 0 ∨ n ≤ i.toNatClampNeg)) (ha : ws[q0]? = some (a, .inl (cQ, n, .inr (.inr (.inr (.inr f))))))
    (kk : W p l e R s m args below meth c H locs cells slots Q (F0 m (pc + 1) ls (va_rf (f i.toNatClampNeg) :: rest))) : W p l e R s m args below meth c H locs cells slots Q (F0 m pc ls (.int i :: .ref a :: rest)) := by
  have hlt : i.toNatClampNeg < n := Nat.not_le.mp fun q => hin (Or.inr q)
  exact W.aald (v := va_rf (f i.toNatClampNeg)) F.1 F.2.1 (hH.1 q0 _ ha) ((hK.1.2 2 _ rfl).1 n (fun j => va_rf (f j))) rfl (fun q => by cases q) (by show ¬ (i < 0 ∨ (arrV _ _ _).slots.size ≤ _); rw [arrV_size]; exact hin) (by show (arrV _ _ _).slots[_]? = _; rw [arrV_read _ _ hlt]) rfl rfl hdg kk
theorem k_alen (F : CallFix p m c cc nL s args Ts own) (hK : KK D cI cJ cQ s) (hH : Hs D A s.heap ws H locs) (q0 : Nat) {n : Nat} {f : Nat → Int32} (hdg : decode cc pc = .ok (.arraylength, 1)) (ha : ws[q0]? = some (a, .inl (cI, n, .inl f)))
    (kk : W p l e R s m args below meth c H locs cells slots Q (F0 m (pc + 1) ls (.int (nI n) :: rest))) : W p l e R s m args below meth c H locs cells slots Q (F0 m pc ls (.ref a :: rest)) :=
  va_alen F.1 F.2.1 hK.1 hH.1 q0 0 ha rfl rfl hdg kk
theorem k_max (F : CallFix p m c cc nL s args Ts own) {index : Nat} (hl : ls.size = nL) (hlk : Cond.methodLink own index Lib.Math.max.name ∈ Ts) (h1 : Cond.static Lib.Math.max.name ∈ Ts) (h2 : Cond.initialized "java/lang/Math" ∈ Ts) (h3 : Cond.code Lib.Math.max.name Lib.Math.max.code 2 (some .int) ∈ Ts) (hframes : 1 ≤ R.frames) (hlocals : (rest.map fun v => v.category).sum + 13 ≤ R.locals) (hcs : cells ≤ R.cells ∧ slots ≤ R.slots) {x y : Int32} (hdg : decode cc pc = .ok (.invokestatic index, 3))
    (kk : W p l e R s m args below meth c H locs cells slots Q (F0 m (pc + 3) ls (.int (if x < y then y else x) :: rest))) : W p l e R s m args below meth c H locs cells slots Q (F0 m pc ls (.int y :: .int x :: rest)) :=
  va_mmax F.1 F.2.1 (F.2.2.1.trans hl.symm) F.2.2.2.1 (F.2.2.2.2 _ hlk) (F.2.2.2.2 _ h1) (F.2.2.2.2 _ h2) (F.2.2.2.2 _ h3) hframes hlocals hcs.1 hcs.2 hdg kk
theorem k_min (F : CallFix p m c cc nL s args Ts own) {index : Nat} (hl : ls.size = nL) (hlk : Cond.methodLink own index Lib.Math.min.name ∈ Ts) (h1 : Cond.static Lib.Math.min.name ∈ Ts) (h2 : Cond.initialized "java/lang/Math" ∈ Ts) (h3 : Cond.code Lib.Math.min.name Lib.Math.min.code 2 (some .int) ∈ Ts) (hframes : 1 ≤ R.frames) (hlocals : (rest.map fun v => v.category).sum + 13 ≤ R.locals) (hcs : cells ≤ R.cells ∧ slots ≤ R.slots) {x y : Int32} (hdg : decode cc pc = .ok (.invokestatic index, 3))
    (kk : W p l e R s m args below meth c H locs cells slots Q (F0 m (pc + 3) ls (.int (if y < x then y else x) :: rest))) : W p l e R s m args below meth c H locs cells slots Q (F0 m pc ls (.int y :: .int x :: rest)) :=
  va_mmin F.1 F.2.1 (F.2.2.1.trans hl.symm) F.2.2.2.1 (F.2.2.2.2 _ hlk) (F.2.2.2.2 _ h1) (F.2.2.2.2 _ h2) (F.2.2.2.2 _ h3) hframes hlocals hcs.1 hcs.2 hdg kk
/-- a whole int array copied into another of its length -/
theorem k_copy (F : CallFix p m c cc nL s args Ts own) (hK : KK D cI cJ cQ s) (hH : Hs D A s.heap ws H locs) {index : Nat} (hl : ls.size = nL) (q0 q1 : Nat) {a0 N : Nat} {f g : Nat → Int32} {n : Int32} (hlk : Cond.methodLink own index arraycopyName ∈ Ts) (h1 : Cond.native arraycopyName ∈ Ts) (h2 : Cond.static arraycopyName ∈ Ts) (h3 : Cond.initialized "java/lang/System" ∈ Ts) (hframes : 1 ≤ R.frames) (hlocals : (rest.map fun v => v.category).sum + (nativeFrameWords "java/lang/System" "arraycopy" 5 + 11) ≤ R.locals) (hdg : decode cc pc = .ok (.invokestatic index, 3)) (hnn : ¬ n < 0) (hN : n.toNatClampNeg = N) (ha0 : ws[q0]? = some (a0, .inl (cI, N, .inl f))) (ha1 : ws[q1]? = some (a, .inl (cI, N, .inl g)))
    (kk : ∀ (H1 : Heap) (locs1 : List Loc), Hs D A s.heap (ws.set q1 (a, .inl (cI, N, .inl f))) H1 locs1 → W p l e R s m args below meth c H1 locs1 cells slots Q (F0 m (pc + 3) ls rest)) : W p l e R s m args below meth c H locs cells slots Q (F0 m pc ls (.int n :: .int 0 :: .ref a :: .int 0 :: .ref a0 :: rest)) := by
  have h0 : (0 : Int32).toNatClampNeg = 0 := rfl
  refine va_copyi F.1 F.2.1 (F.2.2.1.trans hl.symm) F.2.2.2.1 (F.2.2.2.2 _ hlk) (F.2.2.2.2 _ h1) (F.2.2.2.2 _ h2) (F.2.2.2.2 _ h3) hK.1 hH.1 hH.2.1 hH.2.2 q0 q1 0 0 ha0 ha1 rfl rfl rfl (by decide) (by decide) hnn (by rw [h0, hN]; omega) (by rw [h0, hN]; omega) (fun i _ => rfl) hframes hlocals hdg (fun H1 locs1 g1 g2 g3 => ?_)
  have hlt : q1 < ws.length := (List.getElem?_eq_some_iff.mp ha1).1
  have hX := Hs.ext (g := f) (q0 := q1) ⟨g1, g2, g3⟩ (List.getElem?_set_self hlt) (fun j hj => by rw [h0, hN]; exact (pk_cpy_in (Nat.zero_le j) (by omega)).trans (by simp))
  rw [List.set_set] at hX
  exact kk H1 locs1 hX
theorem k_ri {wc wc' : va_W} {is : List Nat} {r : Int32} {av : Array Value} (hr : va_Run p l e R s m args below meth c H locs cells slots 0 0 (F0 m pc ls st0) rest (va_Qi (fun (r' : Int32) (_ : Unit) => r' = r) (fun _ t => va_P D vwCl wc' t.heap) (va_A wc H.size) av) (va_A wc H.size)) (hH : Hs D A s.heap ws H locs) (hA : ∀ q, s.heap.size ≤ q → A q) (hC : is.map (fun i => ws[i]?) = wc.map some) (ha : wc'.map (·.1) = wc.map (·.1)) (hn : va_nd is = true)
    (kk : ∀ (H1 : Heap) (locs1 : List Loc), Hs D A s.heap (putAt ws is wc') H1 locs1 → W p l e R s m args below meth c H1 locs1 cells slots Q (F0 m (pc + 3) ls (.int r :: rest))) : W p l e R s m args below meth c H locs cells slots Q (F0 m pc ls st0) := by
  have hFc := va_free (wc := wc) hH.2.1 hH.2.2 hA is hC
  refine va_calli hr hH.2.2 (fun q _ h => hFc q h) hFc (fun r' u t H1 locs1 ht hvm hw hB hz1 hk1 hS => ?_)
  subst hw
  exact kk H1 locs1 (k_join hH hC ha hn hk1 (by rw [← ht]; exact hB) hS)
theorem k_Vi (F : CallFix p m c cc nL s args Ts own) (hK : KK D cI cJ cQ s) (hH : Hs D A s.heap ws H locs) (hA : ∀ q, s.heap.size ≤ q → A q) (hl : ls.size = nL) (hcs : cells ≤ R.cells ∧ slots ≤ R.slots) {y : MethodName} {bytes : ByteArray} {maxL n index : Nat} {ret : Option FieldType} {wsc : List Cond} {rm : Room} {wc wc' : va_W} {r : Int32} {C : String} {b : Nat} (is : List Nat) (As rest : List Value) (hM : CtI l D cI cJ cQ y wsc rm (.ref b :: As) wc r wc') (cw : CallW R s args own C index y bytes maxL ret wsc rm 0 0 n) (hdg : decode cc pc = .ok (.invokevirtual index, 3)) (q0 : Nat) {ci : Nat} {fs : List Value} {q : vw_C} (he : ws[q0]? = some (b, .inr (ci, fs))) (hc : vwCl[ci]? = some q) (hqC : q.1 = C) (hn : As.length = n) (hst : st0 = As.reverse ++ .ref b :: rest) (hW : (rest.map fun v => v.category).sum ≤ 8) (hC : is.map (fun i => ws[i]?) = wc.map some) (ha : wc'.map (·.1) = wc.map (·.1)) (hnd : va_nd is = true)
    (kk : ∀ (H1 : Heap) (locs1 : List Loc), Hs D A s.heap (putAt ws is wc') H1 locs1 → W p l e R s m args below meth c H1 locs1 cells slots Q (F0 m (pc + 3) ls (.int r :: rest))) : W p l e R s m args below meth c H locs cells slots Q (F0 m pc ls st0) := by
  subst hqC
  have hPc : va_P D vwCl wc H := fun k q hk => by
    have h1 : (is.map (fun i => ws[i]?))[k]? = some (some q) := by rw [hC, List.getElem?_map, hk]; rfl
    rw [List.getElem?_map] at h1
    cases hi : is[k]? with
    | none => rw [hi] at h1; cases h1
    | some i => rw [hi] at h1; exact hH.1 i q (Option.some.inj h1)
  have hDc : va_D A wc := hH.2.1.sub is hnd hC
  exact k_ri (va_runV F (hM H.size) cw ⟨ctP.blind, va_recv hK.1 hH.1 hc he, ctP.pre hK hPc hDc⟩ rfl hn hl hst (lv_room hW) hdg hcs) hH hA hC ha hnd kk
theorem k_Vi0 (F : CallFix p m c cc nL s args Ts own) (hK : KK D cI cJ cQ s) (hH : Hs D A s.heap ws H locs) (hA : ∀ q, s.heap.size ≤ q → A q) (hl : ls.size = nL) (hcs : cells ≤ R.cells ∧ slots ≤ R.slots) {y : MethodName} {bytes : ByteArray} {maxL n index : Nat} {ret : Option FieldType} {wsc : List Cond} {rm : Room} {wc' : va_W} {r : Int32} {C : String} {b : Nat} (As rest : List Value) (hM : CtI l D cI cJ cQ y wsc rm (.ref b :: As) ws r wc') (cw : CallW R s args own C index y bytes maxL ret wsc rm 0 0 n) (hdg : decode cc pc = .ok (.invokevirtual index, 3)) (q0 : Nat) {ci : Nat} {fs : List Value} {q : vw_C} (he : ws[q0]? = some (b, .inr (ci, fs))) (hc : vwCl[ci]? = some q) (hqC : q.1 = C) (hn : As.length = n) (hst : st0 = As.reverse ++ .ref b :: rest) (hW : (rest.map fun v => v.category).sum ≤ 8) (ha : wc'.map (·.1) = ws.map (·.1))
    (kk : ∀ (H1 : Heap) (locs1 : List Loc), Hs D A s.heap wc' H1 locs1 → W p l e R s m args below meth c H1 locs1 cells slots Q (F0 m (pc + 3) ls (.int r :: rest))) : W p l e R s m args below meth c H locs cells slots Q (F0 m pc ls st0) := by
  subst hqC
  have hFc : ∀ q, va_A ws H.size q → A q := fun q h => by
    rcases h with ⟨k, e, h⟩ | h
    · exact hH.2.1.2 k _ h
    · exact hA q (Nat.le_trans hH.2.2.1 h)
  refine va_calli (va_runV F (hM H.size) cw ⟨ctP.blind, va_recv hK.1 hH.1 hc he, ctP.pre hK hH.1 hH.2.1⟩ rfl hn hl hst (lv_room hW) hdg hcs) hH.2.2 (fun q _ h => hFc q h) hFc (fun r' u t H1 locs1 ht hvm hw hB hz1 hk1 hS => ?_)
  subst hw
  exact kk H1 locs1 ⟨by rw [← ht]; exact hB, hH.2.1.addr ha, hS⟩
theorem k_Si (F : CallFix p m c cc nL s args Ts own) (hK : KK D cI cJ cQ s) (hH : Hs D A s.heap ws H locs) (hA : ∀ q, s.heap.size ≤ q → A q) (hl : ls.size = nL) (hcs : cells ≤ R.cells ∧ slots ≤ R.slots) {y : MethodName} {bytes : ByteArray} {maxL n index : Nat} {ret : Option FieldType} {wsc : List Cond} {rm : Room} {wc wc' : va_W} {r : Int32}  (is : List Nat) (As rest : List Value) (hM : CtI l D cI cJ cQ y wsc rm As wc r wc') (cw : CallB R s args own index y bytes maxL ret wsc rm 0 0 n ∧ (Cond.static y).before args s = true) (hdg : decode cc pc = .ok (.invokestatic index, 3)) (hn : As.length = n) (hst : st0 = As.reverse ++ rest) (hW : (rest.map fun v => v.category).sum ≤ 8) (hC : is.map (fun i => ws[i]?) = wc.map some) (ha : wc'.map (·.1) = wc.map (·.1)) (hnd : va_nd is = true)
    (kk : ∀ (H1 : Heap) (locs1 : List Loc), Hs D A s.heap (putAt ws is wc') H1 locs1 → W p l e R s m args below meth c H1 locs1 cells slots Q (F0 m (pc + 3) ls (.int r :: rest))) : W p l e R s m args below meth c H locs cells slots Q (F0 m pc ls st0) := by
  have hPc : va_P D vwCl wc H := fun k q hk => by
    have h1 : (is.map (fun i => ws[i]?))[k]? = some (some q) := by rw [hC, List.getElem?_map, hk]; rfl
    rw [List.getElem?_map] at h1
    cases hi : is[k]? with
    | none => rw [hi] at h1; cases h1
    | some i => rw [hi] at h1; exact hH.1 i q (Option.some.inj h1)
  have hDc : va_D A wc := hH.2.1.sub is hnd hC
  exact k_ri (va_runS F (hM H.size) cw ⟨ctP.blind, ctP.pre hK hPc hDc⟩ rfl hn hl hst (lv_room hW) hdg hcs) hH hA hC ha hnd kk
theorem k_Ni (F : CallFix p m c cc nL s args Ts own) (hK : KK D cI cJ cQ s) (hH : Hs D A s.heap ws H locs) (hA : ∀ q, s.heap.size ≤ q → A q) (hl : ls.size = nL) (hcs : cells ≤ R.cells ∧ slots ≤ R.slots) {y : MethodName} {bytes : ByteArray} {maxL n index : Nat} {ret : Option FieldType} {wsc : List Cond} {rm : Room} {wc wc' : va_W} {r : Int32} {host : String} (is : List Nat) (As rest : List Value) (hM : CtI l D cI cJ cQ y wsc rm As wc r wc') (cw : va_CN R s args own index y host bytes maxL ret wsc rm 0 0 n ∧ (Cond.static y).before args s = true ∧ True) (hdg : decode cc pc = .ok (.invokestatic index, 3)) (hn : As.length = n) (hst : st0 = As.reverse ++ rest) (hW : (rest.map fun v => v.category).sum ≤ 8) (hC : is.map (fun i => ws[i]?) = wc.map some) (ha : wc'.map (·.1) = wc.map (·.1)) (hnd : va_nd is = true)
    (kk : ∀ (H1 : Heap) (locs1 : List Loc), Hs D A s.heap (putAt ws is wc') H1 locs1 → W p l e R s m args below meth c H1 locs1 cells slots Q (F0 m (pc + 3) ls (.int r :: rest))) : W p l e R s m args below meth c H locs cells slots Q (F0 m pc ls st0) := by
  have hPc : va_P D vwCl wc H := fun k q hk => by
    have h1 : (is.map (fun i => ws[i]?))[k]? = some (some q) := by rw [hC, List.getElem?_map, hk]; rfl
    rw [List.getElem?_map] at h1
    cases hi : is[k]? with
    | none => rw [hi] at h1; cases h1
    | some i => rw [hi] at h1; exact hH.1 i q (Option.some.inj h1)
  have hDc : va_D A wc := hH.2.1.sub is hnd hC
  exact k_ri (va_runSN F (hM H.size) cw ⟨ctP.blind, ctP.pre hK hPc hDc⟩ rfl hn hl hst (lv_room hW) hdg hcs) hH hA hC ha hnd kk
theorem k_rl {wc wc' : va_W} {is : List Nat} {r : Int64} {av : Array Value} (hr : va_Run p l e R s m args below meth c H locs cells slots 0 0 (F0 m pc ls st0) rest (va_Ql (fun (r' : Int64) (_ : Unit) => r' = r) (fun _ t => va_P D vwCl wc' t.heap) (va_A wc H.size) av) (va_A wc H.size)) (hH : Hs D A s.heap ws H locs) (hA : ∀ q, s.heap.size ≤ q → A q) (hC : is.map (fun i => ws[i]?) = wc.map some) (ha : wc'.map (·.1) = wc.map (·.1)) (hn : va_nd is = true)
    (kk : ∀ (H1 : Heap) (locs1 : List Loc), Hs D A s.heap (putAt ws is wc') H1 locs1 → W p l e R s m args below meth c H1 locs1 cells slots Q (F0 m (pc + 3) ls (.long r :: rest))) : W p l e R s m args below meth c H locs cells slots Q (F0 m pc ls st0) := by
  have hFc := va_free (wc := wc) hH.2.1 hH.2.2 hA is hC
  refine va_calll hr hH.2.2 (fun q _ h => hFc q h) hFc (fun r' u t H1 locs1 ht hvm hw hB hz1 hk1 hS => ?_)
  subst hw
  exact kk H1 locs1 (k_join hH hC ha hn hk1 (by rw [← ht]; exact hB) hS)
theorem k_Vl (F : CallFix p m c cc nL s args Ts own) (hK : KK D cI cJ cQ s) (hH : Hs D A s.heap ws H locs) (hA : ∀ q, s.heap.size ≤ q → A q) (hl : ls.size = nL) (hcs : cells ≤ R.cells ∧ slots ≤ R.slots) {y : MethodName} {bytes : ByteArray} {maxL n index : Nat} {ret : Option FieldType} {wsc : List Cond} {rm : Room} {wc wc' : va_W} {r : Int64} {C : String} {b : Nat} (is : List Nat) (As rest : List Value) (hM : CtL l D cI cJ cQ y wsc rm (.ref b :: As) wc r wc') (cw : CallW R s args own C index y bytes maxL ret wsc rm 0 0 n) (hdg : decode cc pc = .ok (.invokevirtual index, 3)) (q0 : Nat) {ci : Nat} {fs : List Value} {q : vw_C} (he : ws[q0]? = some (b, .inr (ci, fs))) (hc : vwCl[ci]? = some q) (hqC : q.1 = C) (hn : As.length = n) (hst : st0 = As.reverse ++ .ref b :: rest) (hW : (rest.map fun v => v.category).sum ≤ 8) (hC : is.map (fun i => ws[i]?) = wc.map some) (ha : wc'.map (·.1) = wc.map (·.1)) (hnd : va_nd is = true)
    (kk : ∀ (H1 : Heap) (locs1 : List Loc), Hs D A s.heap (putAt ws is wc') H1 locs1 → W p l e R s m args below meth c H1 locs1 cells slots Q (F0 m (pc + 3) ls (.long r :: rest))) : W p l e R s m args below meth c H locs cells slots Q (F0 m pc ls st0) := by
  subst hqC
  have hPc : va_P D vwCl wc H := fun k q hk => by
    have h1 : (is.map (fun i => ws[i]?))[k]? = some (some q) := by rw [hC, List.getElem?_map, hk]; rfl
    rw [List.getElem?_map] at h1
    cases hi : is[k]? with
    | none => rw [hi] at h1; cases h1
    | some i => rw [hi] at h1; exact hH.1 i q (Option.some.inj h1)
  have hDc : va_D A wc := hH.2.1.sub is hnd hC
  exact k_rl (va_runV F (hM H.size) cw ⟨ctP.blind, va_recv hK.1 hH.1 hc he, ctP.pre hK hPc hDc⟩ rfl hn hl hst (lv_room hW) hdg hcs) hH hA hC ha hnd kk
theorem k_Vl0 (F : CallFix p m c cc nL s args Ts own) (hK : KK D cI cJ cQ s) (hH : Hs D A s.heap ws H locs) (hA : ∀ q, s.heap.size ≤ q → A q) (hl : ls.size = nL) (hcs : cells ≤ R.cells ∧ slots ≤ R.slots) {y : MethodName} {bytes : ByteArray} {maxL n index : Nat} {ret : Option FieldType} {wsc : List Cond} {rm : Room} {wc' : va_W} {r : Int64} {C : String} {b : Nat} (As rest : List Value) (hM : CtL l D cI cJ cQ y wsc rm (.ref b :: As) ws r wc') (cw : CallW R s args own C index y bytes maxL ret wsc rm 0 0 n) (hdg : decode cc pc = .ok (.invokevirtual index, 3)) (q0 : Nat) {ci : Nat} {fs : List Value} {q : vw_C} (he : ws[q0]? = some (b, .inr (ci, fs))) (hc : vwCl[ci]? = some q) (hqC : q.1 = C) (hn : As.length = n) (hst : st0 = As.reverse ++ .ref b :: rest) (hW : (rest.map fun v => v.category).sum ≤ 8) (ha : wc'.map (·.1) = ws.map (·.1))
    (kk : ∀ (H1 : Heap) (locs1 : List Loc), Hs D A s.heap wc' H1 locs1 → W p l e R s m args below meth c H1 locs1 cells slots Q (F0 m (pc + 3) ls (.long r :: rest))) : W p l e R s m args below meth c H locs cells slots Q (F0 m pc ls st0) := by
  subst hqC
  have hFc : ∀ q, va_A ws H.size q → A q := fun q h => by
    rcases h with ⟨k, e, h⟩ | h
    · exact hH.2.1.2 k _ h
    · exact hA q (Nat.le_trans hH.2.2.1 h)
  refine va_calll (va_runV F (hM H.size) cw ⟨ctP.blind, va_recv hK.1 hH.1 hc he, ctP.pre hK hH.1 hH.2.1⟩ rfl hn hl hst (lv_room hW) hdg hcs) hH.2.2 (fun q _ h => hFc q h) hFc (fun r' u t H1 locs1 ht hvm hw hB hz1 hk1 hS => ?_)
  subst hw
  exact kk H1 locs1 ⟨by rw [← ht]; exact hB, hH.2.1.addr ha, hS⟩
theorem k_Sl (F : CallFix p m c cc nL s args Ts own) (hK : KK D cI cJ cQ s) (hH : Hs D A s.heap ws H locs) (hA : ∀ q, s.heap.size ≤ q → A q) (hl : ls.size = nL) (hcs : cells ≤ R.cells ∧ slots ≤ R.slots) {y : MethodName} {bytes : ByteArray} {maxL n index : Nat} {ret : Option FieldType} {wsc : List Cond} {rm : Room} {wc wc' : va_W} {r : Int64}  (is : List Nat) (As rest : List Value) (hM : CtL l D cI cJ cQ y wsc rm As wc r wc') (cw : CallB R s args own index y bytes maxL ret wsc rm 0 0 n ∧ (Cond.static y).before args s = true) (hdg : decode cc pc = .ok (.invokestatic index, 3)) (hn : As.length = n) (hst : st0 = As.reverse ++ rest) (hW : (rest.map fun v => v.category).sum ≤ 8) (hC : is.map (fun i => ws[i]?) = wc.map some) (ha : wc'.map (·.1) = wc.map (·.1)) (hnd : va_nd is = true)
    (kk : ∀ (H1 : Heap) (locs1 : List Loc), Hs D A s.heap (putAt ws is wc') H1 locs1 → W p l e R s m args below meth c H1 locs1 cells slots Q (F0 m (pc + 3) ls (.long r :: rest))) : W p l e R s m args below meth c H locs cells slots Q (F0 m pc ls st0) := by
  have hPc : va_P D vwCl wc H := fun k q hk => by
    have h1 : (is.map (fun i => ws[i]?))[k]? = some (some q) := by rw [hC, List.getElem?_map, hk]; rfl
    rw [List.getElem?_map] at h1
    cases hi : is[k]? with
    | none => rw [hi] at h1; cases h1
    | some i => rw [hi] at h1; exact hH.1 i q (Option.some.inj h1)
  have hDc : va_D A wc := hH.2.1.sub is hnd hC
  exact k_rl (va_runS F (hM H.size) cw ⟨ctP.blind, ctP.pre hK hPc hDc⟩ rfl hn hl hst (lv_room hW) hdg hcs) hH hA hC ha hnd kk
theorem k_Nl (F : CallFix p m c cc nL s args Ts own) (hK : KK D cI cJ cQ s) (hH : Hs D A s.heap ws H locs) (hA : ∀ q, s.heap.size ≤ q → A q) (hl : ls.size = nL) (hcs : cells ≤ R.cells ∧ slots ≤ R.slots) {y : MethodName} {bytes : ByteArray} {maxL n index : Nat} {ret : Option FieldType} {wsc : List Cond} {rm : Room} {wc wc' : va_W} {r : Int64} {host : String} (is : List Nat) (As rest : List Value) (hM : CtL l D cI cJ cQ y wsc rm As wc r wc') (cw : va_CN R s args own index y host bytes maxL ret wsc rm 0 0 n ∧ (Cond.static y).before args s = true ∧ True) (hdg : decode cc pc = .ok (.invokestatic index, 3)) (hn : As.length = n) (hst : st0 = As.reverse ++ rest) (hW : (rest.map fun v => v.category).sum ≤ 8) (hC : is.map (fun i => ws[i]?) = wc.map some) (ha : wc'.map (·.1) = wc.map (·.1)) (hnd : va_nd is = true)
    (kk : ∀ (H1 : Heap) (locs1 : List Loc), Hs D A s.heap (putAt ws is wc') H1 locs1 → W p l e R s m args below meth c H1 locs1 cells slots Q (F0 m (pc + 3) ls (.long r :: rest))) : W p l e R s m args below meth c H locs cells slots Q (F0 m pc ls st0) := by
  have hPc : va_P D vwCl wc H := fun k q hk => by
    have h1 : (is.map (fun i => ws[i]?))[k]? = some (some q) := by rw [hC, List.getElem?_map, hk]; rfl
    rw [List.getElem?_map] at h1
    cases hi : is[k]? with
    | none => rw [hi] at h1; cases h1
    | some i => rw [hi] at h1; exact hH.1 i q (Option.some.inj h1)
  have hDc : va_D A wc := hH.2.1.sub is hnd hC
  exact k_rl (va_runSN F (hM H.size) cw ⟨ctP.blind, ctP.pre hK hPc hDc⟩ rfl hn hl hst (lv_room hW) hdg hcs) hH hA hC ha hnd kk
theorem k_rv {wc wc' : va_W} {is : List Nat}  {av : Array Value} (hr : va_Run p l e R s m args below meth c H locs cells slots 0 0 (F0 m pc ls st0) rest (va_Qv (fun (_ : Unit) => True) (fun _ t => va_P D vwCl wc' t.heap) (va_A wc H.size) av) (va_A wc H.size)) (hH : Hs D A s.heap ws H locs) (hA : ∀ q, s.heap.size ≤ q → A q) (hC : is.map (fun i => ws[i]?) = wc.map some) (ha : wc'.map (·.1) = wc.map (·.1)) (hn : va_nd is = true)
    (kk : ∀ (H1 : Heap) (locs1 : List Loc), Hs D A s.heap (putAt ws is wc') H1 locs1 → W p l e R s m args below meth c H1 locs1 cells slots Q (F0 m (pc + 3) ls (rest))) : W p l e R s m args below meth c H locs cells slots Q (F0 m pc ls st0) := by
  have hFc := va_free (wc := wc) hH.2.1 hH.2.2 hA is hC
  refine va_callv hr hH.2.2 (fun q _ h => hFc q h) hFc (fun u t H1 locs1 ht hvm hw hB hz1 hk1 hS => ?_)
  exact kk H1 locs1 (k_join hH hC ha hn hk1 (by rw [← ht]; exact hB) hS)
theorem k_Vv (F : CallFix p m c cc nL s args Ts own) (hK : KK D cI cJ cQ s) (hH : Hs D A s.heap ws H locs) (hA : ∀ q, s.heap.size ≤ q → A q) (hl : ls.size = nL) (hcs : cells ≤ R.cells ∧ slots ≤ R.slots) {y : MethodName} {bytes : ByteArray} {maxL n index : Nat} {ret : Option FieldType} {wsc : List Cond} {rm : Room} {wc wc' : va_W}  {C : String} {b : Nat} (is : List Nat) (As rest : List Value) (hM : CtV l D cI cJ cQ y wsc rm (.ref b :: As) wc wc') (cw : CallW R s args own C index y bytes maxL ret wsc rm 0 0 n) (hdg : decode cc pc = .ok (.invokevirtual index, 3)) (q0 : Nat) {ci : Nat} {fs : List Value} {q : vw_C} (he : ws[q0]? = some (b, .inr (ci, fs))) (hc : vwCl[ci]? = some q) (hqC : q.1 = C) (hn : As.length = n) (hst : st0 = As.reverse ++ .ref b :: rest) (hW : (rest.map fun v => v.category).sum ≤ 8) (hC : is.map (fun i => ws[i]?) = wc.map some) (ha : wc'.map (·.1) = wc.map (·.1)) (hnd : va_nd is = true)
    (kk : ∀ (H1 : Heap) (locs1 : List Loc), Hs D A s.heap (putAt ws is wc') H1 locs1 → W p l e R s m args below meth c H1 locs1 cells slots Q (F0 m (pc + 3) ls (rest))) : W p l e R s m args below meth c H locs cells slots Q (F0 m pc ls st0) := by
  subst hqC
  have hPc : va_P D vwCl wc H := fun k q hk => by
    have h1 : (is.map (fun i => ws[i]?))[k]? = some (some q) := by rw [hC, List.getElem?_map, hk]; rfl
    rw [List.getElem?_map] at h1
    cases hi : is[k]? with
    | none => rw [hi] at h1; cases h1
    | some i => rw [hi] at h1; exact hH.1 i q (Option.some.inj h1)
  have hDc : va_D A wc := hH.2.1.sub is hnd hC
  exact k_rv (va_runV F (hM H.size) cw ⟨ctP.blind, va_recv hK.1 hH.1 hc he, ctP.pre hK hPc hDc⟩ rfl hn hl hst (lv_room hW) hdg hcs) hH hA hC ha hnd kk
theorem k_Vv0 (F : CallFix p m c cc nL s args Ts own) (hK : KK D cI cJ cQ s) (hH : Hs D A s.heap ws H locs) (hA : ∀ q, s.heap.size ≤ q → A q) (hl : ls.size = nL) (hcs : cells ≤ R.cells ∧ slots ≤ R.slots) {y : MethodName} {bytes : ByteArray} {maxL n index : Nat} {ret : Option FieldType} {wsc : List Cond} {rm : Room} {wc' : va_W}  {C : String} {b : Nat} (As rest : List Value) (hM : CtV l D cI cJ cQ y wsc rm (.ref b :: As) ws wc') (cw : CallW R s args own C index y bytes maxL ret wsc rm 0 0 n) (hdg : decode cc pc = .ok (.invokevirtual index, 3)) (q0 : Nat) {ci : Nat} {fs : List Value} {q : vw_C} (he : ws[q0]? = some (b, .inr (ci, fs))) (hc : vwCl[ci]? = some q) (hqC : q.1 = C) (hn : As.length = n) (hst : st0 = As.reverse ++ .ref b :: rest) (hW : (rest.map fun v => v.category).sum ≤ 8) (ha : wc'.map (·.1) = ws.map (·.1))
    (kk : ∀ (H1 : Heap) (locs1 : List Loc), Hs D A s.heap wc' H1 locs1 → W p l e R s m args below meth c H1 locs1 cells slots Q (F0 m (pc + 3) ls (rest))) : W p l e R s m args below meth c H locs cells slots Q (F0 m pc ls st0) := by
  subst hqC
  have hFc : ∀ q, va_A ws H.size q → A q := fun q h => by
    rcases h with ⟨k, e, h⟩ | h
    · exact hH.2.1.2 k _ h
    · exact hA q (Nat.le_trans hH.2.2.1 h)
  refine va_callv (va_runV F (hM H.size) cw ⟨ctP.blind, va_recv hK.1 hH.1 hc he, ctP.pre hK hH.1 hH.2.1⟩ rfl hn hl hst (lv_room hW) hdg hcs) hH.2.2 (fun q _ h => hFc q h) hFc (fun u t H1 locs1 ht hvm hw hB hz1 hk1 hS => ?_)
  exact kk H1 locs1 ⟨by rw [← ht]; exact hB, hH.2.1.addr ha, hS⟩
theorem k_Sv (F : CallFix p m c cc nL s args Ts own) (hK : KK D cI cJ cQ s) (hH : Hs D A s.heap ws H locs) (hA : ∀ q, s.heap.size ≤ q → A q) (hl : ls.size = nL) (hcs : cells ≤ R.cells ∧ slots ≤ R.slots) {y : MethodName} {bytes : ByteArray} {maxL n index : Nat} {ret : Option FieldType} {wsc : List Cond} {rm : Room} {wc wc' : va_W}   (is : List Nat) (As rest : List Value) (hM : CtV l D cI cJ cQ y wsc rm As wc wc') (cw : CallB R s args own index y bytes maxL ret wsc rm 0 0 n ∧ (Cond.static y).before args s = true) (hdg : decode cc pc = .ok (.invokestatic index, 3)) (hn : As.length = n) (hst : st0 = As.reverse ++ rest) (hW : (rest.map fun v => v.category).sum ≤ 8) (hC : is.map (fun i => ws[i]?) = wc.map some) (ha : wc'.map (·.1) = wc.map (·.1)) (hnd : va_nd is = true)
    (kk : ∀ (H1 : Heap) (locs1 : List Loc), Hs D A s.heap (putAt ws is wc') H1 locs1 → W p l e R s m args below meth c H1 locs1 cells slots Q (F0 m (pc + 3) ls (rest))) : W p l e R s m args below meth c H locs cells slots Q (F0 m pc ls st0) := by
  have hPc : va_P D vwCl wc H := fun k q hk => by
    have h1 : (is.map (fun i => ws[i]?))[k]? = some (some q) := by rw [hC, List.getElem?_map, hk]; rfl
    rw [List.getElem?_map] at h1
    cases hi : is[k]? with
    | none => rw [hi] at h1; cases h1
    | some i => rw [hi] at h1; exact hH.1 i q (Option.some.inj h1)
  have hDc : va_D A wc := hH.2.1.sub is hnd hC
  exact k_rv (va_runS F (hM H.size) cw ⟨ctP.blind, ctP.pre hK hPc hDc⟩ rfl hn hl hst (lv_room hW) hdg hcs) hH hA hC ha hnd kk
theorem k_Nv (F : CallFix p m c cc nL s args Ts own) (hK : KK D cI cJ cQ s) (hH : Hs D A s.heap ws H locs) (hA : ∀ q, s.heap.size ≤ q → A q) (hl : ls.size = nL) (hcs : cells ≤ R.cells ∧ slots ≤ R.slots) {y : MethodName} {bytes : ByteArray} {maxL n index : Nat} {ret : Option FieldType} {wsc : List Cond} {rm : Room} {wc wc' : va_W}  {host : String} (is : List Nat) (As rest : List Value) (hM : CtV l D cI cJ cQ y wsc rm As wc wc') (cw : va_CN R s args own index y host bytes maxL ret wsc rm 0 0 n ∧ (Cond.static y).before args s = true ∧ True) (hdg : decode cc pc = .ok (.invokestatic index, 3)) (hn : As.length = n) (hst : st0 = As.reverse ++ rest) (hW : (rest.map fun v => v.category).sum ≤ 8) (hC : is.map (fun i => ws[i]?) = wc.map some) (ha : wc'.map (·.1) = wc.map (·.1)) (hnd : va_nd is = true)
    (kk : ∀ (H1 : Heap) (locs1 : List Loc), Hs D A s.heap (putAt ws is wc') H1 locs1 → W p l e R s m args below meth c H1 locs1 cells slots Q (F0 m (pc + 3) ls (rest))) : W p l e R s m args below meth c H locs cells slots Q (F0 m pc ls st0) := by
  have hPc : va_P D vwCl wc H := fun k q hk => by
    have h1 : (is.map (fun i => ws[i]?))[k]? = some (some q) := by rw [hC, List.getElem?_map, hk]; rfl
    rw [List.getElem?_map] at h1
    cases hi : is[k]? with
    | none => rw [hi] at h1; cases h1
    | some i => rw [hi] at h1; exact hH.1 i q (Option.some.inj h1)
  have hDc : va_D A wc := hH.2.1.sub is hnd hC
  exact k_rv (va_runSN F (hM H.size) cw ⟨ctP.blind, ctP.pre hK hPc hDc⟩ rfl hn hl hst (lv_room hW) hdg hcs) hH hA hC ha hnd kk
theorem k_rr {wc wc' : va_W} {is : List Nat} {r : Nat} {av : Array Value} (hr : va_Run p l e R s m args below meth c H locs cells slots 0 0 (F0 m pc ls st0) rest (va_Qr (fun (_ : Unit) => True) (fun _ a t => a = r ∧ va_P D vwCl wc' t.heap) (va_A wc H.size) av) (va_A wc H.size)) (hH : Hs D A s.heap ws H locs) (hA : ∀ q, s.heap.size ≤ q → A q) (hC : is.map (fun i => ws[i]?) = wc.map some) (ha : wc'.map (·.1) = wc.map (·.1)) (hn : va_nd is = true)
    (kk : ∀ (H1 : Heap) (locs1 : List Loc), Hs D A s.heap (putAt ws is wc') H1 locs1 → W p l e R s m args below meth c H1 locs1 cells slots Q (F0 m (pc + 3) ls (.ref r :: rest))) : W p l e R s m args below meth c H locs cells slots Q (F0 m pc ls st0) := by
  have hFc := va_free (wc := wc) hH.2.1 hH.2.2 hA is hC
  refine va_callr hr hH.2.2 (fun q _ h => hFc q h) hFc (fun u r' t H1 locs1 ht hvm hw hB hz1 hk1 hS => ?_)
  obtain ⟨e9, hB⟩ := hB
  subst e9
  exact kk H1 locs1 (k_join hH hC ha hn hk1 (by rw [← ht]; exact hB) hS)
theorem k_Vr (F : CallFix p m c cc nL s args Ts own) (hK : KK D cI cJ cQ s) (hH : Hs D A s.heap ws H locs) (hA : ∀ q, s.heap.size ≤ q → A q) (hl : ls.size = nL) (hcs : cells ≤ R.cells ∧ slots ≤ R.slots) {y : MethodName} {bytes : ByteArray} {maxL n index : Nat} {ret : Option FieldType} {wsc : List Cond} {rm : Room} {wc wc' : va_W} {r : Nat} {C : String} {b : Nat} (is : List Nat) (As rest : List Value) (hM : CtR l D cI cJ cQ y wsc rm (.ref b :: As) wc r wc') (cw : CallW R s args own C index y bytes maxL ret wsc rm 0 0 n) (hdg : decode cc pc = .ok (.invokevirtual index, 3)) (q0 : Nat) {ci : Nat} {fs : List Value} {q : vw_C} (he : ws[q0]? = some (b, .inr (ci, fs))) (hc : vwCl[ci]? = some q) (hqC : q.1 = C) (hn : As.length = n) (hst : st0 = As.reverse ++ .ref b :: rest) (hW : (rest.map fun v => v.category).sum ≤ 8) (hC : is.map (fun i => ws[i]?) = wc.map some) (ha : wc'.map (·.1) = wc.map (·.1)) (hnd : va_nd is = true)
    (kk : ∀ (H1 : Heap) (locs1 : List Loc), Hs D A s.heap (putAt ws is wc') H1 locs1 → W p l e R s m args below meth c H1 locs1 cells slots Q (F0 m (pc + 3) ls (.ref r :: rest))) : W p l e R s m args below meth c H locs cells slots Q (F0 m pc ls st0) := by
  subst hqC
  have hPc : va_P D vwCl wc H := fun k q hk => by
    have h1 : (is.map (fun i => ws[i]?))[k]? = some (some q) := by rw [hC, List.getElem?_map, hk]; rfl
    rw [List.getElem?_map] at h1
    cases hi : is[k]? with
    | none => rw [hi] at h1; cases h1
    | some i => rw [hi] at h1; exact hH.1 i q (Option.some.inj h1)
  have hDc : va_D A wc := hH.2.1.sub is hnd hC
  exact k_rr (va_runV F (hM H.size) cw ⟨ctP.blind, va_recv hK.1 hH.1 hc he, ctP.pre hK hPc hDc⟩ rfl hn hl hst (lv_room hW) hdg hcs) hH hA hC ha hnd kk
theorem k_Vr0 (F : CallFix p m c cc nL s args Ts own) (hK : KK D cI cJ cQ s) (hH : Hs D A s.heap ws H locs) (hA : ∀ q, s.heap.size ≤ q → A q) (hl : ls.size = nL) (hcs : cells ≤ R.cells ∧ slots ≤ R.slots) {y : MethodName} {bytes : ByteArray} {maxL n index : Nat} {ret : Option FieldType} {wsc : List Cond} {rm : Room} {wc' : va_W} {r : Nat} {C : String} {b : Nat} (As rest : List Value) (hM : CtR l D cI cJ cQ y wsc rm (.ref b :: As) ws r wc') (cw : CallW R s args own C index y bytes maxL ret wsc rm 0 0 n) (hdg : decode cc pc = .ok (.invokevirtual index, 3)) (q0 : Nat) {ci : Nat} {fs : List Value} {q : vw_C} (he : ws[q0]? = some (b, .inr (ci, fs))) (hc : vwCl[ci]? = some q) (hqC : q.1 = C) (hn : As.length = n) (hst : st0 = As.reverse ++ .ref b :: rest) (hW : (rest.map fun v => v.category).sum ≤ 8) (ha : wc'.map (·.1) = ws.map (·.1))
    (kk : ∀ (H1 : Heap) (locs1 : List Loc), Hs D A s.heap wc' H1 locs1 → W p l e R s m args below meth c H1 locs1 cells slots Q (F0 m (pc + 3) ls (.ref r :: rest))) : W p l e R s m args below meth c H locs cells slots Q (F0 m pc ls st0) := by
  subst hqC
  have hFc : ∀ q, va_A ws H.size q → A q := fun q h => by
    rcases h with ⟨k, e, h⟩ | h
    · exact hH.2.1.2 k _ h
    · exact hA q (Nat.le_trans hH.2.2.1 h)
  refine va_callr (va_runV F (hM H.size) cw ⟨ctP.blind, va_recv hK.1 hH.1 hc he, ctP.pre hK hH.1 hH.2.1⟩ rfl hn hl hst (lv_room hW) hdg hcs) hH.2.2 (fun q _ h => hFc q h) hFc (fun u r' t H1 locs1 ht hvm hw hB hz1 hk1 hS => ?_)
  obtain ⟨e9, hB⟩ := hB
  subst e9
  exact kk H1 locs1 ⟨by rw [← ht]; exact hB, hH.2.1.addr ha, hS⟩
theorem k_Sr (F : CallFix p m c cc nL s args Ts own) (hK : KK D cI cJ cQ s) (hH : Hs D A s.heap ws H locs) (hA : ∀ q, s.heap.size ≤ q → A q) (hl : ls.size = nL) (hcs : cells ≤ R.cells ∧ slots ≤ R.slots) {y : MethodName} {bytes : ByteArray} {maxL n index : Nat} {ret : Option FieldType} {wsc : List Cond} {rm : Room} {wc wc' : va_W} {r : Nat}  (is : List Nat) (As rest : List Value) (hM : CtR l D cI cJ cQ y wsc rm As wc r wc') (cw : CallB R s args own index y bytes maxL ret wsc rm 0 0 n ∧ (Cond.static y).before args s = true) (hdg : decode cc pc = .ok (.invokestatic index, 3)) (hn : As.length = n) (hst : st0 = As.reverse ++ rest) (hW : (rest.map fun v => v.category).sum ≤ 8) (hC : is.map (fun i => ws[i]?) = wc.map some) (ha : wc'.map (·.1) = wc.map (·.1)) (hnd : va_nd is = true)
    (kk : ∀ (H1 : Heap) (locs1 : List Loc), Hs D A s.heap (putAt ws is wc') H1 locs1 → W p l e R s m args below meth c H1 locs1 cells slots Q (F0 m (pc + 3) ls (.ref r :: rest))) : W p l e R s m args below meth c H locs cells slots Q (F0 m pc ls st0) := by
  have hPc : va_P D vwCl wc H := fun k q hk => by
    have h1 : (is.map (fun i => ws[i]?))[k]? = some (some q) := by rw [hC, List.getElem?_map, hk]; rfl
    rw [List.getElem?_map] at h1
    cases hi : is[k]? with
    | none => rw [hi] at h1; cases h1
    | some i => rw [hi] at h1; exact hH.1 i q (Option.some.inj h1)
  have hDc : va_D A wc := hH.2.1.sub is hnd hC
  exact k_rr (va_runS F (hM H.size) cw ⟨ctP.blind, ctP.pre hK hPc hDc⟩ rfl hn hl hst (lv_room hW) hdg hcs) hH hA hC ha hnd kk
theorem k_Nr (F : CallFix p m c cc nL s args Ts own) (hK : KK D cI cJ cQ s) (hH : Hs D A s.heap ws H locs) (hA : ∀ q, s.heap.size ≤ q → A q) (hl : ls.size = nL) (hcs : cells ≤ R.cells ∧ slots ≤ R.slots) {y : MethodName} {bytes : ByteArray} {maxL n index : Nat} {ret : Option FieldType} {wsc : List Cond} {rm : Room} {wc wc' : va_W} {r : Nat} {host : String} (is : List Nat) (As rest : List Value) (hM : CtR l D cI cJ cQ y wsc rm As wc r wc') (cw : va_CN R s args own index y host bytes maxL ret wsc rm 0 0 n ∧ (Cond.static y).before args s = true ∧ True) (hdg : decode cc pc = .ok (.invokestatic index, 3)) (hn : As.length = n) (hst : st0 = As.reverse ++ rest) (hW : (rest.map fun v => v.category).sum ≤ 8) (hC : is.map (fun i => ws[i]?) = wc.map some) (ha : wc'.map (·.1) = wc.map (·.1)) (hnd : va_nd is = true)
    (kk : ∀ (H1 : Heap) (locs1 : List Loc), Hs D A s.heap (putAt ws is wc') H1 locs1 → W p l e R s m args below meth c H1 locs1 cells slots Q (F0 m (pc + 3) ls (.ref r :: rest))) : W p l e R s m args below meth c H locs cells slots Q (F0 m pc ls st0) := by
  have hPc : va_P D vwCl wc H := fun k q hk => by
    have h1 : (is.map (fun i => ws[i]?))[k]? = some (some q) := by rw [hC, List.getElem?_map, hk]; rfl
    rw [List.getElem?_map] at h1
    cases hi : is[k]? with
    | none => rw [hi] at h1; cases h1
    | some i => rw [hi] at h1; exact hH.1 i q (Option.some.inj h1)
  have hDc : va_D A wc := hH.2.1.sub is hnd hC
  exact k_rr (va_runSN F (hM H.size) cw ⟨ctP.blind, ctP.pre hK hPc hDc⟩ rfl hn hl hst (lv_room hW) hdg hcs) hH hA hC ha hnd kk
theorem sw_def (hexec : p.tables.exec = Jvm.exec) (hb : c.code = cc) {dflt lo hi : Int} {offs : Array Int} {len : Nat} {x : Int32} {tgt : Nat} (hdg : decode cc pc = .ok (.tableswitch dflt lo hi offs, len)) (hd : (pc : Int) + dflt = (tgt : Int)) (hin : ¬ x.toInt < lo → ¬ hi < x.toInt → offs[(x.toInt - lo).toNat]? = some dflt) (J : W p l e R s m args below meth c H locs cells slots Q (F0 m tgt ls rest)) : W p l e R s m args below meth c H locs cells slots Q (F0 m pc ls (.int x :: rest)) := by
  by_cases h1 : x.toInt < lo
  · exact lv_tableOut hexec hb hdg (Or.inl h1) hd J
  · by_cases h2 : hi < x.toInt
    · exact lv_tableOut hexec hb hdg (Or.inr h2) hd J
    · exact lv_tableIn hexec hb hdg h1 h2 (hin h1 h2) hd J
end KROWS
theorem ctI_of {l : Launch} {D : va_G} {cI cJ cQ : ClassId} {y : MethodName} {ws ws' : List Cond} {rm : Room} {av : List Value} {w w' : va_W} {r : Int32} {cc : ByteArray} {maxL : Nat} (rt : FieldType) (hy : plainName y.cls = true) (hw : ws = Cond.code y cc maxL (some rt) :: ws') (hlen : (lg_sl av).length ≤ maxL)
    (k : ∀ (p : Program) (e : Env) (s : State) (m : MethodId) (args : Array Value) (below : List Frame) (meth : Method) (c : Code) (A : Nat → Prop) (Q : State → Prop) (ls : Array Slot), CallFix p m c cc maxL s args ws y.cls → KK D cI cJ cQ s → (∀ q, s.heap.size ≤ q → A q) →
      (∀ (H : Heap) (locs : List Loc) (ls : Array Slot) (pc : Nat), decode cc pc = .ok (.ireturn, 1) → narrow rt (.int r) = .int r → Hs D A s.heap w' H locs → W p l e rm s m args below meth c H locs 0 0 Q (F0 m pc ls [.int r])) →
      Hs D A s.heap w s.heap [] → lv_has ls maxL (lv_args 0 av) → W p l e rm s m args below meth c s.heap [] 0 0 Q (F0 m 0 ls [])) : CtI l D cI cJ cQ y ws rm av w r w' := by
  intro sz
  refine Met.ofW (cc := cc) (maxL := maxL) (ret := some rt) hy hw ?_
  intro p e s m args below meth c s₁ B hml hv
  obtain ⟨rfl, hsz, hP, hK, hD0⟩ := hv
  subst hsz
  have hl := lv_entry av (n := maxL) hlen
  rw [lg_entry_eq]
  have hlocks := B.notSynchronized
  refine k p e s m _ below meth c (va_A w s.heap.size) _ _ ⟨B.exec, B.bytes, hml, findClass_of_methodNamed B.named, atoms_spec (ws := ws) B.pre⟩ hK (fun q h => Or.inr h) ?_ ⟨hP, hD0.self, va_S.rf⟩ hl
  intro H locs ls pc hdg hn hH
  exact W.zret (v := r) B.exec B.bytes B.returns hn (fun t ht hW => ⟨⟨r, (), rfl, rfl, by show va_P D vwCl w' t.heap; rw [ht]; exact hH.1⟩, hH.2.2.F ht⟩) hH.2.2.2.2 hdg
theorem ctL_of {l : Launch} {D : va_G} {cI cJ cQ : ClassId} {y : MethodName} {ws ws' : List Cond} {rm : Room} {av : List Value} {w w' : va_W} {r : Int64} {cc : ByteArray} {maxL : Nat} (hy : plainName y.cls = true) (hw : ws = Cond.code y cc maxL (some .long) :: ws') (hlen : (lg_sl av).length ≤ maxL)
    (k : ∀ (p : Program) (e : Env) (s : State) (m : MethodId) (args : Array Value) (below : List Frame) (meth : Method) (c : Code) (A : Nat → Prop) (Q : State → Prop) (ls : Array Slot), CallFix p m c cc maxL s args ws y.cls → KK D cI cJ cQ s → (∀ q, s.heap.size ≤ q → A q) →
      (∀ (H : Heap) (locs : List Loc) (ls : Array Slot) (pc : Nat), decode cc pc = .ok (.lreturn, 1) → Hs D A s.heap w' H locs → W p l e rm s m args below meth c H locs 0 0 Q (F0 m pc ls [.long r])) →
      Hs D A s.heap w s.heap [] → lv_has ls maxL (lv_args 0 av) → W p l e rm s m args below meth c s.heap [] 0 0 Q (F0 m 0 ls [])) : CtL l D cI cJ cQ y ws rm av w r w' := by
  intro sz
  refine Met.ofW (cc := cc) (maxL := maxL) (ret := some .long) hy hw ?_
  intro p e s m args below meth c s₁ B hml hv
  obtain ⟨rfl, hsz, hP, hK, hD0⟩ := hv
  subst hsz
  have hl := lv_entry av (n := maxL) hlen
  rw [lg_entry_eq]
  have hlocks := B.notSynchronized
  refine k p e s m _ below meth c (va_A w s.heap.size) _ _ ⟨B.exec, B.bytes, hml, findClass_of_methodNamed B.named, atoms_spec (ws := ws) B.pre⟩ hK (fun q h => Or.inr h) ?_ ⟨hP, hD0.self, va_S.rf⟩ hl
  intro H locs ls pc hdg hH
  exact W.lret (v := r) B.exec B.bytes B.returns (fun t ht hW => ⟨⟨r, (), rfl, rfl, by show va_P D vwCl w' t.heap; rw [ht]; exact hH.1⟩, hH.2.2.F ht⟩) hH.2.2.2.2 hdg
theorem ctV_of {l : Launch} {D : va_G} {cI cJ cQ : ClassId} {y : MethodName} {ws ws' : List Cond} {rm : Room} {av : List Value} {w w' : va_W}  {cc : ByteArray} {maxL : Nat} (hy : plainName y.cls = true) (hw : ws = Cond.code y cc maxL (none) :: ws') (hlen : (lg_sl av).length ≤ maxL)
    (k : ∀ (p : Program) (e : Env) (s : State) (m : MethodId) (args : Array Value) (below : List Frame) (meth : Method) (c : Code) (A : Nat → Prop) (Q : State → Prop) (ls : Array Slot), CallFix p m c cc maxL s args ws y.cls → KK D cI cJ cQ s → (∀ q, s.heap.size ≤ q → A q) →
      (∀ (H : Heap) (locs : List Loc) (ls : Array Slot) (pc : Nat), decode cc pc = .ok (.return_, 1) → Hs D A s.heap w' H locs → W p l e rm s m args below meth c H locs 0 0 Q (F0 m pc ls [])) →
      Hs D A s.heap w s.heap [] → lv_has ls maxL (lv_args 0 av) → W p l e rm s m args below meth c s.heap [] 0 0 Q (F0 m 0 ls [])) : CtV l D cI cJ cQ y ws rm av w w' := by
  intro sz
  refine Met.ofW (cc := cc) (maxL := maxL) (ret := none) hy hw ?_
  intro p e s m args below meth c s₁ B hml hv
  obtain ⟨rfl, hsz, hP, hK, hD0⟩ := hv
  subst hsz
  have hl := lv_entry av (n := maxL) hlen
  rw [lg_entry_eq]
  have hlocks := B.notSynchronized
  refine k p e s m _ below meth c (va_A w s.heap.size) _ _ ⟨B.exec, B.bytes, hml, findClass_of_methodNamed B.named, atoms_spec (ws := ws) B.pre⟩ hK (fun q h => Or.inr h) ?_ ⟨hP, hD0.self, va_S.rf⟩ hl
  intro H locs ls pc hdg hH
  exact W.vret B.exec B.bytes B.returns (fun t ht hW => ⟨⟨(), rfl, trivial, by show va_P D vwCl w' t.heap; rw [ht]; exact hH.1⟩, hH.2.2.F ht⟩) hH.2.2.2.2 hdg
theorem ctR_of {l : Launch} {D : va_G} {cI cJ cQ : ClassId} {y : MethodName} {ws ws' : List Cond} {rm : Room} {av : List Value} {w w' : va_W} {r : Nat} {cc : ByteArray} {maxL : Nat} (rt : FieldType) (hrt : (∃ n, rt = .object n) ∨ ∃ t, rt = .array t) (hy : plainName y.cls = true) (hw : ws = Cond.code y cc maxL (some rt) :: ws') (hlen : (lg_sl av).length ≤ maxL)
    (k : ∀ (p : Program) (e : Env) (s : State) (m : MethodId) (args : Array Value) (below : List Frame) (meth : Method) (c : Code) (A : Nat → Prop) (Q : State → Prop) (ls : Array Slot), CallFix p m c cc maxL s args ws y.cls → KK D cI cJ cQ s → (∀ q, s.heap.size ≤ q → A q) →
      (∀ (H : Heap) (locs : List Loc) (ls : Array Slot) (pc : Nat), decode cc pc = .ok (.areturn, 1) → Hs D A s.heap w' H locs → W p l e rm s m args below meth c H locs 0 0 Q (F0 m pc ls [.ref r])) →
      Hs D A s.heap w s.heap [] → lv_has ls maxL (lv_args 0 av) → W p l e rm s m args below meth c s.heap [] 0 0 Q (F0 m 0 ls [])) : CtR l D cI cJ cQ y ws rm av w r w' := by
  intro sz
  refine Met.ofW (cc := cc) (maxL := maxL) (ret := some rt) hy hw ?_
  intro p e s m args below meth c s₁ B hml hv
  obtain ⟨rfl, hsz, hP, hK, hD0⟩ := hv
  subst hsz
  have hl := lv_entry av (n := maxL) hlen
  rw [lg_entry_eq]
  have hlocks := B.notSynchronized
  refine k p e s m _ below meth c (va_A w s.heap.size) _ _ ⟨B.exec, B.bytes, hml, findClass_of_methodNamed B.named, atoms_spec (ws := ws) B.pre⟩ hK (fun q h => Or.inr h) ?_ ⟨hP, hD0.self, va_S.rf⟩ hl
  intro H locs ls pc hdg hH
  exact W.aret (v := .ref r) B.exec B.bytes B.returns hrt (Or.inr ⟨r, rfl⟩) (fun t ht hW => ⟨⟨(), r, rfl, trivial, rfl, by show va_P D vwCl w' t.heap; rw [ht]; exact hH.1⟩, hH.2.2.F ht⟩) hH.2.2.2.2 hdg
