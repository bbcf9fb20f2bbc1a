/-! ===== text: the seven string constants of Letters, what the tables and the heap say of them; contracts over them ===== -/
def lenL : List Nat := [4, 5, 4, 3, 2, 0, 6]
def bytL : List (List Int32) := [[48, 48, 48, 59], [107, 48, 48, 48, 59], [107, 48, 48, 59], [48, 48, 59], [48, 59], [], [116, 115, 104, 99, 98, 119]]
def idxL : List Nat := [59, 61, 63, 65, 67, 69, 148]
def txtL : List String := ["000;", "k000;", "k00;", "00;", "0;", "", "tshcbw"]
abbrev ich (x : Int32) : Int32 := (x.toUInt32 % 65536).toInt32
abbrev ib8 (x : Int32) : Int32 := x.toInt8.toInt32
/-- an answer that must be a char -/
def co (x : Int32) : Option Int32 := if ich x = x then some x else none
theorem co_narrow {x y : Int32} (h : co x = some y) : y = x ∧ narrow .char (.int x) = .int x := by
  unfold co at h
  by_cases h0 : ich x = x
  · rw [if_pos h0] at h
    cases h
    refine ⟨rfl, ?_⟩
    have h1 := pk_nc x
    rw [show (x.toUInt32 % 65536).toInt32 = x from h0] at h1
    exact h1
  · rw [if_neg h0] at h
    cases h
def TXF (aK aV : Nat → Nat) (A : Nat → Prop) (U : State) (H : Heap) : Prop := vk_S 7 lenL bytL aK aV A U H ∧ (∀ i : Nat, i < 7 → vk_R RX1 (idxL.getD i 0) (txtL.getD i "") (aK i) U) ∧ va_Z "java/lang/String" "COMPACT_STRINGS" "Z" (.int 1) A U H ∧ va_Zq "jdk/internal/util/Preconditions" "SIOOBE_FORMATTER" "Ljava/util/function/BiFunction;" A U H
theorem TXF.call {aK aV : Nat → Nat} {A B : Nat → Prop} {s U : State} {H : Heap} {locs : List Loc} (h : TXF aK aV A s s.heap) (hS : va_S A s.heap H locs) (hU : U.heap = H) (hW : s.WarmedH U.vm) (hAB : ∀ q, B q → A q) : TXF aK aV B U U.heap := by
  obtain ⟨h1, h2, h3, h4⟩ := h
  rw [hU]
  exact ⟨((h1.kept hS.2.1).moved hW.alike).narrow hAB, fun i hi => (h2 i hi).warm hW, ((h3.kept hS.2.1).moved hW.alike).narrow hAB, ((h4.kept hS.2.1).moved hW.alike).narrow hAB⟩
theorem TXF.same {aK aV : Nat → Nat} {A : Nat → Prop} {u U : State} {H : Heap} (e : u.vm = U.vm) (h : TXF aK aV A u H) : TXF aK aV A U H := by
  obtain ⟨h1, h2, h3, h4⟩ := h
  have ha : u.vm.Alike U.vm := by rw [e]; exact Vm.Alike.refl U.vm
  exact ⟨h1.moved ha, fun i hi => (h2 i hi).same e.symm, h3.moved ha, h4.moved ha⟩
def ctPT (D : va_G) (cI cJ cQ : ClassId) (aK aV : Nat → Nat) (w : va_W) (sz : Nat) (U : State) : Prop := ctP D cI cJ cQ w sz U ∧ TXF aK aV (va_A w sz) U U.heap
theorem ctPT.blind {D : va_G} {cI cJ cQ : ClassId} {aK aV : Nat → Nat} {w : va_W} {sz : Nat} {av : List Value} : FrameBlind (va_Pc av (ctPT D cI cJ cQ aK aV w sz)) := fun a U g mk q => by
  obtain ⟨q0, ⟨q1, qP, qK, qD⟩, qT⟩ := q
  exact ⟨q0, ⟨q1, qP, KK.same (u := U) (U := U.calling g mk a) rfl qK, qD⟩, TXF.same (u := U) (U := U.calling g mk a) rfl qT⟩
theorem ctPT.pre {D : va_G} {cI cJ cQ : ClassId} {aK aV : Nat → Nat} {w : va_W} {H : Heap} {locs : List Loc} {s : State} (hK : KK D cI cJ cQ s) {A : Nat → Prop} (hT : TXF aK aV A s s.heap) (hS : va_S A s.heap H locs) (hAB : ∀ q, va_A w H.size q → A q) (hP : va_P D vwCl w H) (hD : va_D A w) {av : List Value} : ∀ U : State, U.heap = H → s.WarmedH U.vm → va_Pc av (ctPT D cI cJ cQ aK aV w H.size) av.toArray U := fun U hU hW => ⟨rfl, ⟨by rw [hU], by rw [hU]; exact hP, hK.warm hW, hD.weaken (fun _ _ _ _ => trivial)⟩, hT.call hS hU hW hAB⟩
def CtIT (l : Launch) (D : va_G) (cI cJ cQ : ClassId) (aK aV : Nat → Nat) (y : MethodName) (ws : List Cond) (rm : Room) (av : List Value) (w : va_W) (r : Int32) (w' : va_W) : Prop := ∀ sz : Nat, Met l y ws rm (va_Pc av (ctPT D cI cJ cQ aK aV w sz)) (va_Qi (fun (r' : Int32) (_ : Unit) => r' = r) (fun _ t => va_P D vwCl w' t.heap) (va_A w sz)) 0 0 (va_A w sz)
def CtVT (l : Launch) (D : va_G) (cI cJ cQ : ClassId) (aK aV : Nat → Nat) (y : MethodName) (ws : List Cond) (rm : Room) (av : List Value) (w : va_W) (w' : va_W) : Prop := ∀ sz : Nat, Met l y ws rm (va_Pc av (ctPT D cI cJ cQ aK aV w sz)) (va_Qv (fun (_ : Unit) => True) (fun _ t => va_P D vwCl w' t.heap) (va_A w sz)) 0 0 (va_A w sz)
def CtRT (l : Launch) (D : va_G) (cI cJ cQ : ClassId) (aK aV : Nat → Nat) (y : MethodName) (ws : List Cond) (rm : Room) (av : List Value) (w : va_W) (r : Nat) (w' : va_W) : Prop := ∀ sz : Nat, Met l y ws rm (va_Pc av (ctPT D cI cJ cQ aK aV w sz)) (va_Qr (fun (_ : Unit) => True) (fun _ a t => a = r ∧ va_P D vwCl w' t.heap) (va_A w sz)) 0 0 (va_A w sz)
section TROWS
variable {p : Program} {l : Launch} {e : Env} {R : Room} {s : State} {m : MethodId} {args : Array Value} {below : List Frame} {meth : Method} {c : Code} {H : Heap} {locs : List Loc} {cells slots : Nat} {Q : State → Prop} {cc : ByteArray} {pc nL : Nat} {ls : Array Slot} {rest st0 : List Value} {D : va_G} {cI cJ cQ : ClassId} {A : Nat → Prop} {a : Nat} {ws : va_W} {Ts : List Cond} {own : String}
variable {aK aV : Nat → Nat}
theorem k_ViT (F : CallFix p m c cc nL s args Ts own) (hK : KK D cI cJ cQ s) (hT : TXF aK aV A s s.heap) (hH : Hs D A s.heap ws H locs) (hA : ∀ q, s.heap.size ≤ q → A q) (hl : ls.size = nL) (hcs : cells ≤ R.cells ∧ slots ≤ R.slots) {y : MethodName} {bytes : ByteArray} {maxL n index : Nat} {ret : Option FieldType} {wsc : List Cond} {rm : Room} {wc wc' : va_W} {r : Int32} {C : String} {b : Nat} (is : List Nat) (As rest : List Value) (hM : CtIT l D cI cJ cQ aK aV y wsc rm (.ref b :: As) wc r wc') (cw : CallW R s args own C index y bytes maxL ret wsc rm 0 0 n) (hdg : decode cc pc = .ok (.invokevirtual index, 3)) (hrv : ∃ cell : Cell, H[b]? = some cell ∧ cell.vm.isStatics = false ∧ s.vm.findClass C = some cell.cls) (hn : As.length = n) (hst : st0 = As.reverse ++ .ref b :: rest) (hW : (rest.map fun v => v.category).sum ≤ 8) (hC : is.map (fun i => ws[i]?) = wc.map some) (ha : wc'.map (·.1) = wc.map (·.1)) (hnd : va_nd is = true)
    (kk : ∀ (H1 : Heap) (locs1 : List Loc), Hs D A s.heap (putAt ws is wc') H1 locs1 → W p l e R s m args below meth c H1 locs1 cells slots Q (F0 m (pc + 3) ls (.int r :: rest))) : W p l e R s m args below meth c H locs cells slots Q (F0 m pc ls st0) := by
  have hPc : va_P D vwCl wc H := fun k q hk => by
    have h1 : (is.map (fun i => ws[i]?))[k]? = some (some q) := by rw [hC, List.getElem?_map, hk]; rfl
    rw [List.getElem?_map] at h1
    cases hi : is[k]? with
    | none => rw [hi] at h1; cases h1
    | some i => rw [hi] at h1; exact hH.1 i q (Option.some.inj h1)
  have hDc : va_D A wc := hH.2.1.sub is hnd hC
  have hFc := va_free (wc := wc) hH.2.1 hH.2.2 hA is hC
  exact k_ri (va_runV F (hM H.size) cw ⟨ctPT.blind, hrv, ctPT.pre hK hT hH.2.2 hFc hPc hDc⟩ rfl hn hl hst (lv_room hW) hdg hcs) hH hA hC ha hnd kk
theorem k_SiT (F : CallFix p m c cc nL s args Ts own) (hK : KK D cI cJ cQ s) (hT : TXF aK aV A s s.heap) (hH : Hs D A s.heap ws H locs) (hA : ∀ q, s.heap.size ≤ q → A q) (hl : ls.size = nL) (hcs : cells ≤ R.cells ∧ slots ≤ R.slots) {y : MethodName} {bytes : ByteArray} {maxL n index : Nat} {ret : Option FieldType} {wsc : List Cond} {rm : Room} {wc wc' : va_W} {r : Int32}  (is : List Nat) (As rest : List Value) (hM : CtIT l D cI cJ cQ aK aV y wsc rm As wc r wc') (cw : CallB R s args own index y bytes maxL ret wsc rm 0 0 n ∧ (Cond.static y).before args s = true) (hdg : decode cc pc = .ok (.invokestatic index, 3)) (hn : As.length = n) (hst : st0 = As.reverse ++ rest) (hW : (rest.map fun v => v.category).sum ≤ 8) (hC : is.map (fun i => ws[i]?) = wc.map some) (ha : wc'.map (·.1) = wc.map (·.1)) (hnd : va_nd is = true)
    (kk : ∀ (H1 : Heap) (locs1 : List Loc), Hs D A s.heap (putAt ws is wc') H1 locs1 → W p l e R s m args below meth c H1 locs1 cells slots Q (F0 m (pc + 3) ls (.int r :: rest))) : W p l e R s m args below meth c H locs cells slots Q (F0 m pc ls st0) := by
  have hPc : va_P D vwCl wc H := fun k q hk => by
    have h1 : (is.map (fun i => ws[i]?))[k]? = some (some q) := by rw [hC, List.getElem?_map, hk]; rfl
    rw [List.getElem?_map] at h1
    cases hi : is[k]? with
    | none => rw [hi] at h1; cases h1
    | some i => rw [hi] at h1; exact hH.1 i q (Option.some.inj h1)
  have hDc : va_D A wc := hH.2.1.sub is hnd hC
  have hFc := va_free (wc := wc) hH.2.1 hH.2.2 hA is hC
  exact k_ri (va_runS F (hM H.size) cw ⟨ctPT.blind, ctPT.pre hK hT hH.2.2 hFc hPc hDc⟩ rfl hn hl hst (lv_room hW) hdg hcs) hH hA hC ha hnd kk
theorem k_VvT (F : CallFix p m c cc nL s args Ts own) (hK : KK D cI cJ cQ s) (hT : TXF aK aV A s s.heap) (hH : Hs D A s.heap ws H locs) (hA : ∀ q, s.heap.size ≤ q → A q) (hl : ls.size = nL) (hcs : cells ≤ R.cells ∧ slots ≤ R.slots) {y : MethodName} {bytes : ByteArray} {maxL n index : Nat} {ret : Option FieldType} {wsc : List Cond} {rm : Room} {wc wc' : va_W}  {C : String} {b : Nat} (is : List Nat) (As rest : List Value) (hM : CtVT l D cI cJ cQ aK aV y wsc rm (.ref b :: As) wc wc') (cw : CallW R s args own C index y bytes maxL ret wsc rm 0 0 n) (hdg : decode cc pc = .ok (.invokevirtual index, 3)) (hrv : ∃ cell : Cell, H[b]? = some cell ∧ cell.vm.isStatics = false ∧ s.vm.findClass C = some cell.cls) (hn : As.length = n) (hst : st0 = As.reverse ++ .ref b :: rest) (hW : (rest.map fun v => v.category).sum ≤ 8) (hC : is.map (fun i => ws[i]?) = wc.map some) (ha : wc'.map (·.1) = wc.map (·.1)) (hnd : va_nd is = true)
    (kk : ∀ (H1 : Heap) (locs1 : List Loc), Hs D A s.heap (putAt ws is wc') H1 locs1 → W p l e R s m args below meth c H1 locs1 cells slots Q (F0 m (pc + 3) ls (rest))) : W p l e R s m args below meth c H locs cells slots Q (F0 m pc ls st0) := by
  have hPc : va_P D vwCl wc H := fun k q hk => by
    have h1 : (is.map (fun i => ws[i]?))[k]? = some (some q) := by rw [hC, List.getElem?_map, hk]; rfl
    rw [List.getElem?_map] at h1
    cases hi : is[k]? with
    | none => rw [hi] at h1; cases h1
    | some i => rw [hi] at h1; exact hH.1 i q (Option.some.inj h1)
  have hDc : va_D A wc := hH.2.1.sub is hnd hC
  have hFc := va_free (wc := wc) hH.2.1 hH.2.2 hA is hC
  exact k_rv (va_runV F (hM H.size) cw ⟨ctPT.blind, hrv, ctPT.pre hK hT hH.2.2 hFc hPc hDc⟩ rfl hn hl hst (lv_room hW) hdg hcs) hH hA hC ha hnd kk
theorem k_SvT (F : CallFix p m c cc nL s args Ts own) (hK : KK D cI cJ cQ s) (hT : TXF aK aV A s s.heap) (hH : Hs D A s.heap ws H locs) (hA : ∀ q, s.heap.size ≤ q → A q) (hl : ls.size = nL) (hcs : cells ≤ R.cells ∧ slots ≤ R.slots) {y : MethodName} {bytes : ByteArray} {maxL n index : Nat} {ret : Option FieldType} {wsc : List Cond} {rm : Room} {wc wc' : va_W}   (is : List Nat) (As rest : List Value) (hM : CtVT l D cI cJ cQ aK aV y wsc rm As wc wc') (cw : CallB R s args own index y bytes maxL ret wsc rm 0 0 n ∧ (Cond.static y).before args s = true) (hdg : decode cc pc = .ok (.invokestatic index, 3)) (hn : As.length = n) (hst : st0 = As.reverse ++ rest) (hW : (rest.map fun v => v.category).sum ≤ 8) (hC : is.map (fun i => ws[i]?) = wc.map some) (ha : wc'.map (·.1) = wc.map (·.1)) (hnd : va_nd is = true)
    (kk : ∀ (H1 : Heap) (locs1 : List Loc), Hs D A s.heap (putAt ws is wc') H1 locs1 → W p l e R s m args below meth c H1 locs1 cells slots Q (F0 m (pc + 3) ls (rest))) : W p l e R s m args below meth c H locs cells slots Q (F0 m pc ls st0) := by
  have hPc : va_P D vwCl wc H := fun k q hk => by
    have h1 : (is.map (fun i => ws[i]?))[k]? = some (some q) := by rw [hC, List.getElem?_map, hk]; rfl
    rw [List.getElem?_map] at h1
    cases hi : is[k]? with
    | none => rw [hi] at h1; cases h1
    | some i => rw [hi] at h1; exact hH.1 i q (Option.some.inj h1)
  have hDc : va_D A wc := hH.2.1.sub is hnd hC
  have hFc := va_free (wc := wc) hH.2.1 hH.2.2 hA is hC
  exact k_rv (va_runS F (hM H.size) cw ⟨ctPT.blind, ctPT.pre hK hT hH.2.2 hFc hPc hDc⟩ rfl hn hl hst (lv_room hW) hdg hcs) hH hA hC ha hnd kk
theorem k_VrT (F : CallFix p m c cc nL s args Ts own) (hK : KK D cI cJ cQ s) (hT : TXF aK aV A s s.heap) (hH : Hs D A s.heap ws H locs) (hA : ∀ q, s.heap.size ≤ q → A q) (hl : ls.size = nL) (hcs : cells ≤ R.cells ∧ slots ≤ R.slots) {y : MethodName} {bytes : ByteArray} {maxL n index : Nat} {ret : Option FieldType} {wsc : List Cond} {rm : Room} {wc wc' : va_W} {r : Nat} {C : String} {b : Nat} (is : List Nat) (As rest : List Value) (hM : CtRT l D cI cJ cQ aK aV y wsc rm (.ref b :: As) wc r wc') (cw : CallW R s args own C index y bytes maxL ret wsc rm 0 0 n) (hdg : decode cc pc = .ok (.invokevirtual index, 3)) (hrv : ∃ cell : Cell, H[b]? = some cell ∧ cell.vm.isStatics = false ∧ s.vm.findClass C = some cell.cls) (hn : As.length = n) (hst : st0 = As.reverse ++ .ref b :: rest) (hW : (rest.map fun v => v.category).sum ≤ 8) (hC : is.map (fun i => ws[i]?) = wc.map some) (ha : wc'.map (·.1) = wc.map (·.1)) (hnd : va_nd is = true)
    (kk : ∀ (H1 : Heap) (locs1 : List Loc), Hs D A s.heap (putAt ws is wc') H1 locs1 → W p l e R s m args below meth c H1 locs1 cells slots Q (F0 m (pc + 3) ls (.ref r :: rest))) : W p l e R s m args below meth c H locs cells slots Q (F0 m pc ls st0) := by
  have hPc : va_P D vwCl wc H := fun k q hk => by
    have h1 : (is.map (fun i => ws[i]?))[k]? = some (some q) := by rw [hC, List.getElem?_map, hk]; rfl
    rw [List.getElem?_map] at h1
    cases hi : is[k]? with
    | none => rw [hi] at h1; cases h1
    | some i => rw [hi] at h1; exact hH.1 i q (Option.some.inj h1)
  have hDc : va_D A wc := hH.2.1.sub is hnd hC
  have hFc := va_free (wc := wc) hH.2.1 hH.2.2 hA is hC
  exact k_rr (va_runV F (hM H.size) cw ⟨ctPT.blind, hrv, ctPT.pre hK hT hH.2.2 hFc hPc hDc⟩ rfl hn hl hst (lv_room hW) hdg hcs) hH hA hC ha hnd kk
theorem k_SrT (F : CallFix p m c cc nL s args Ts own) (hK : KK D cI cJ cQ s) (hT : TXF aK aV A s s.heap) (hH : Hs D A s.heap ws H locs) (hA : ∀ q, s.heap.size ≤ q → A q) (hl : ls.size = nL) (hcs : cells ≤ R.cells ∧ slots ≤ R.slots) {y : MethodName} {bytes : ByteArray} {maxL n index : Nat} {ret : Option FieldType} {wsc : List Cond} {rm : Room} {wc wc' : va_W} {r : Nat}  (is : List Nat) (As rest : List Value) (hM : CtRT l D cI cJ cQ aK aV y wsc rm As wc r wc') (cw : CallB R s args own index y bytes maxL ret wsc rm 0 0 n ∧ (Cond.static y).before args s = true) (hdg : decode cc pc = .ok (.invokestatic index, 3)) (hn : As.length = n) (hst : st0 = As.reverse ++ rest) (hW : (rest.map fun v => v.category).sum ≤ 8) (hC : is.map (fun i => ws[i]?) = wc.map some) (ha : wc'.map (·.1) = wc.map (·.1)) (hnd : va_nd is = true)
    (kk : ∀ (H1 : Heap) (locs1 : List Loc), Hs D A s.heap (putAt ws is wc') H1 locs1 → W p l e R s m args below meth c H1 locs1 cells slots Q (F0 m (pc + 3) ls (.ref r :: rest))) : W p l e R s m args below meth c H locs cells slots Q (F0 m pc ls st0) := by
  have hPc : va_P D vwCl wc H := fun k q hk => by
    have h1 : (is.map (fun i => ws[i]?))[k]? = some (some q) := by rw [hC, List.getElem?_map, hk]; rfl
    rw [List.getElem?_map] at h1
    cases hi : is[k]? with
    | none => rw [hi] at h1; cases h1
    | some i => rw [hi] at h1; exact hH.1 i q (Option.some.inj h1)
  have hDc : va_D A wc := hH.2.1.sub is hnd hC
  have hFc := va_free (wc := wc) hH.2.1 hH.2.2 hA is hC
  exact k_rr (va_runS F (hM H.size) cw ⟨ctPT.blind, ctPT.pre hK hT hH.2.2 hFc hPc hDc⟩ rfl hn hl hst (lv_room hW) hdg hcs) hH hA hC ha hnd kk
end TROWS
theorem ctIT_of {l : Launch} {D : va_G} {cI cJ cQ : ClassId} {aK aV : Nat → Nat} {y : MethodName} {ws ws' : List Cond} {rm : Room} {av : List Value} {w w' : va_W} {r : Int32} {cc : ByteArray} {maxL : Nat} (rt : FieldType) (hy : plainName y.cls = true) (hw : ws = Cond.code y cc maxL (some rt) :: ws') (hlen : (lg_sl av).length ≤ maxL)
    (k : ∀ (p : Program) (e : Env) (s : State) (m : MethodId) (args : Array Value) (below : List Frame) (meth : Method) (c : Code) (A : Nat → Prop) (Q : State → Prop) (ls : Array Slot), CallFix p m c cc maxL s args ws y.cls → KK D cI cJ cQ s → TXF aK aV A s s.heap → (∀ q, s.heap.size ≤ q → A q) →
      (∀ (H : Heap) (locs : List Loc) (ls : Array Slot) (pc : Nat), decode cc pc = .ok (.ireturn, 1) → narrow rt (.int r) = .int r → Hs D A s.heap w' H locs → W p l e rm s m args below meth c H locs 0 0 Q (F0 m pc ls [.int r])) →
      Hs D A s.heap w s.heap [] → lv_has ls maxL (lv_args 0 av) → W p l e rm s m args below meth c s.heap [] 0 0 Q (F0 m 0 ls [])) : CtIT l D cI cJ cQ aK aV y ws rm av w r w' := by
  intro sz
  refine Met.ofW (cc := cc) (maxL := maxL) (ret := some rt) hy hw ?_
  intro p e s m args below meth c s₁ B hml hv
  obtain ⟨rfl, ⟨hsz, hP, hK, hD0⟩, hT⟩ := hv
  subst hsz
  have hl := lv_entry av (n := maxL) hlen
  rw [lg_entry_eq]
  have hlocks := B.notSynchronized
  refine k p e s m _ below meth c (va_A w s.heap.size) _ _ ⟨B.exec, B.bytes, hml, findClass_of_methodNamed B.named, atoms_spec (ws := ws) B.pre⟩ hK hT (fun q h => Or.inr h) ?_ ⟨hP, hD0.self, va_S.rf⟩ hl
  intro H locs ls pc hdg hn hH
  exact W.zret (v := r) B.exec B.bytes B.returns hn (fun t ht hW => ⟨⟨r, (), rfl, rfl, by show va_P D vwCl w' t.heap; rw [ht]; exact hH.1⟩, hH.2.2.F ht⟩) hH.2.2.2.2 hdg
theorem ctVT_of {l : Launch} {D : va_G} {cI cJ cQ : ClassId} {aK aV : Nat → Nat} {y : MethodName} {ws ws' : List Cond} {rm : Room} {av : List Value} {w w' : va_W}  {cc : ByteArray} {maxL : Nat} (hy : plainName y.cls = true) (hw : ws = Cond.code y cc maxL (none) :: ws') (hlen : (lg_sl av).length ≤ maxL)
    (k : ∀ (p : Program) (e : Env) (s : State) (m : MethodId) (args : Array Value) (below : List Frame) (meth : Method) (c : Code) (A : Nat → Prop) (Q : State → Prop) (ls : Array Slot), CallFix p m c cc maxL s args ws y.cls → KK D cI cJ cQ s → TXF aK aV A s s.heap → (∀ q, s.heap.size ≤ q → A q) →
      (∀ (H : Heap) (locs : List Loc) (ls : Array Slot) (pc : Nat), decode cc pc = .ok (.return_, 1) → Hs D A s.heap w' H locs → W p l e rm s m args below meth c H locs 0 0 Q (F0 m pc ls [])) →
      Hs D A s.heap w s.heap [] → lv_has ls maxL (lv_args 0 av) → W p l e rm s m args below meth c s.heap [] 0 0 Q (F0 m 0 ls [])) : CtVT l D cI cJ cQ aK aV y ws rm av w w' := by
  intro sz
  refine Met.ofW (cc := cc) (maxL := maxL) (ret := none) hy hw ?_
  intro p e s m args below meth c s₁ B hml hv
  obtain ⟨rfl, ⟨hsz, hP, hK, hD0⟩, hT⟩ := hv
  subst hsz
  have hl := lv_entry av (n := maxL) hlen
  rw [lg_entry_eq]
  have hlocks := B.notSynchronized
  refine k p e s m _ below meth c (va_A w s.heap.size) _ _ ⟨B.exec, B.bytes, hml, findClass_of_methodNamed B.named, atoms_spec (ws := ws) B.pre⟩ hK hT (fun q h => Or.inr h) ?_ ⟨hP, hD0.self, va_S.rf⟩ hl
  intro H locs ls pc hdg hH
  exact W.vret B.exec B.bytes B.returns (fun t ht hW => ⟨⟨(), rfl, trivial, by show va_P D vwCl w' t.heap; rw [ht]; exact hH.1⟩, hH.2.2.F ht⟩) hH.2.2.2.2 hdg
theorem ctRT_of {l : Launch} {D : va_G} {cI cJ cQ : ClassId} {aK aV : Nat → Nat} {y : MethodName} {ws ws' : List Cond} {rm : Room} {av : List Value} {w w' : va_W} {r : Nat} {cc : ByteArray} {maxL : Nat} (rt : FieldType) (hrt : (∃ n, rt = .object n) ∨ ∃ t, rt = .array t) (hy : plainName y.cls = true) (hw : ws = Cond.code y cc maxL (some rt) :: ws') (hlen : (lg_sl av).length ≤ maxL)
    (k : ∀ (p : Program) (e : Env) (s : State) (m : MethodId) (args : Array Value) (below : List Frame) (meth : Method) (c : Code) (A : Nat → Prop) (Q : State → Prop) (ls : Array Slot), CallFix p m c cc maxL s args ws y.cls → KK D cI cJ cQ s → TXF aK aV A s s.heap → (∀ q, s.heap.size ≤ q → A q) →
      (∀ (H : Heap) (locs : List Loc) (ls : Array Slot) (pc : Nat), decode cc pc = .ok (.areturn, 1) → Hs D A s.heap w' H locs → W p l e rm s m args below meth c H locs 0 0 Q (F0 m pc ls [.ref r])) →
      Hs D A s.heap w s.heap [] → lv_has ls maxL (lv_args 0 av) → W p l e rm s m args below meth c s.heap [] 0 0 Q (F0 m 0 ls [])) : CtRT l D cI cJ cQ aK aV y ws rm av w r w' := by
  intro sz
  refine Met.ofW (cc := cc) (maxL := maxL) (ret := some rt) hy hw ?_
  intro p e s m args below meth c s₁ B hml hv
  obtain ⟨rfl, ⟨hsz, hP, hK, hD0⟩, hT⟩ := hv
  subst hsz
  have hl := lv_entry av (n := maxL) hlen
  rw [lg_entry_eq]
  have hlocks := B.notSynchronized
  refine k p e s m _ below meth c (va_A w s.heap.size) _ _ ⟨B.exec, B.bytes, hml, findClass_of_methodNamed B.named, atoms_spec (ws := ws) B.pre⟩ hK hT (fun q h => Or.inr h) ?_ ⟨hP, hD0.self, va_S.rf⟩ hl
  intro H locs ls pc hdg hH
  exact W.aret (v := .ref r) B.exec B.bytes B.returns hrt (Or.inr ⟨r, rfl⟩) (fun t ht hW => ⟨⟨(), r, rfl, trivial, rfl, by show va_P D vwCl w' t.heap; rw [ht]; exact hH.1⟩, hH.2.2.F ht⟩) hH.2.2.2.2 hdg
