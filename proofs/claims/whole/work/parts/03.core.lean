/-! ===== the core: options that a walk follows, the worlds, contracts with one answer, calls ===== -/
def wpO {α : Type} (e : Option α) (Φ : α → Prop) : Prop := ∃ x, e = some x ∧ Φ x
theorem wp_t {α : Type} {c : Prop} [Decidable c] {a b : Option α} {Φ : α → Prop} (h : c) (e : wpO (if c then a else b) Φ) : wpO a Φ := by
  rw [if_pos h] at e
  exact e
theorem wp_f {α : Type} {c : Prop} [Decidable c] {a b : Option α} {Φ : α → Prop} (h : ¬ c) (e : wpO (if c then a else b) Φ) : wpO b Φ := by
  rw [if_neg h] at e
  exact e
theorem wp_n {α : Type} {c : Prop} [Decidable c] {a : Option α} {Φ : α → Prop} (e : wpO (if c then none else a) Φ) : ¬ c ∧ wpO a Φ := by
  by_cases h : c
  · rw [if_pos h] at e
    obtain ⟨x, h1, -⟩ := e
    cases h1
  · rw [if_neg h] at e
    exact ⟨h, e⟩
theorem wp_b {α β : Type} {e : Option α} {g : α → Option β} {Φ : β → Prop} (h : wpO (e.bind g) Φ) : ∃ x, e = some x ∧ wpO (g x) Φ := by
  obtain ⟨y, h1, h2⟩ := h
  obtain ⟨x, h3, h4⟩ := Option.bind_eq_some_iff.mp h1
  exact ⟨x, h3, y, h4, h2⟩
theorem wp_bb {α β : Type} {e : Option α} {g : α → Option β} {Φ : β → Prop} (h : wpO (e.bind g) Φ) : wpO e (fun x => wpO (g x) Φ) := wp_b h
theorem wp_s {α : Type} {x : α} {Φ : α → Prop} (h : wpO (some x) Φ) : Φ x := by
  obtain ⟨y, h1, h2⟩ := h
  cases h1
  exact h2
theorem wp_0 {α : Type} {Φ : α → Prop} (h : wpO none Φ) : False := by
  obtain ⟨y, h1, -⟩ := h
  cases h1
/-- an answer that must be 0 or 1 -/
def bo (x : Int32) : Option Int32 := if x = 0 then some 0 else if x = 1 then some 1 else none
theorem bo_narrow {x y : Int32} (h : bo x = some y) : y = x ∧ narrow .boolean (.int x) = .int x := by
  unfold bo at h
  by_cases h0 : x = 0
  · rw [if_pos h0] at h
    cases h
    subst h0
    exact ⟨rfl, rfl⟩
  · rw [if_neg h0] at h
    by_cases h1 : x = 1
    · rw [if_pos h1] at h
      cases h
      subst h1
      exact ⟨rfl, rfl⟩
    · rw [if_neg h1] at h
      cases h
def el {α β γ : Type} (f : α → γ) (g : β → γ) : α ⊕ β → γ
  | .inl a => f a
  | .inr b => g b
def elP {α β : Type} (f : α → Prop) (g : β → Prop) : α ⊕ β → Prop
  | .inl a => f a
  | .inr b => g b
/-- a loop: the body goes on with a state (inl), or ends with an answer (inr) -/
def lp {σ ρ : Type} (body : σ → Option (σ ⊕ ρ)) : Nat → σ → Option ρ
  | 0, _ => none
  | n + 1, s => (body s).bind (el (fun s' => lp body n s') some)
theorem wp_l0 {σ ρ : Type} {body : σ → Option (σ ⊕ ρ)} {s : σ} {Φ : ρ → Prop} (h : wpO (lp body 0 s) Φ) : False := wp_0 h
theorem wp_l {σ ρ : Type} {body : σ → Option (σ ⊕ ρ)} {n : Nat} {s : σ} {Φ : ρ → Prop} (h : wpO (lp body (n + 1) s) Φ) : wpO (body s) (elP (fun s' => wpO (lp body n s') Φ) Φ) := by
  obtain ⟨x, h1, h2⟩ := wp_b h
  refine ⟨x, h1, ?_⟩
  cases x with
  | inl a => exact h2
  | inr b =>
    have h3 : Φ b := wp_s (show wpO (some b) Φ from h2)
    exact h3
theorem wp_in {σ ρ : Type} {f : σ → Prop} {g : ρ → Prop} {a : σ} (h : wpO (some (Sum.inl a)) (elP f g)) : f a := by
  have h2 := wp_s h
  exact h2
theorem wp_out {σ ρ : Type} {f : σ → Prop} {g : ρ → Prop} {b : ρ} (h : wpO (some (Sum.inr b)) (elP f g)) : g b := by
  have h2 := wp_s h
  exact h2
/-- how many rounds a loop is given: more than any loop of the system takes -/
def fu : Nat := 1000
theorem join_ {α : Type} {e : Option α} {Φ : α → Prop} {G : Prop} (K : (α → Prop) → Prop) (h : wpO e Φ) (h1 : K Φ) (h2 : ∀ Φ' : α → Prop, K Φ' → wpO e Φ' → G) : G := h2 Φ h1 h
theorem sw_ne {x k : Int32} {a : Int} (h : ¬ x = k) (hk : k.toInt = a) : ¬ x.toInt = a := lv_neT h hk

/-! the tables' words on the nest and on the strings -/
def nwL : List Cond := [.methodLinkNest RX0 52 yX3_isWithin "LawFromTheTree", .methodLinkNest RX1 55 yX3_isWithin "LawFromTheTree", .methodLinkNest RX1 97 yX3_isCell "LawFromTheTree", .methodLinkNest RX1 110 yX3_isKind "LawFromTheTree", .methodLinkNest RX1 117 yX3_isVerdict "LawFromTheTree", .methodLinkNest RX3 24 yX1_init "LawFromTheTree", .methodLinkNest RX3 31 yX2_init "LawFromTheTree"]
def NW (U : State) : Prop := va_Nw (.methodLinkNest RX0 52 yX3_isWithin "LawFromTheTree") U ∧ va_Nw (.methodLinkNest RX1 55 yX3_isWithin "LawFromTheTree") U ∧ va_Nw (.methodLinkNest RX1 97 yX3_isCell "LawFromTheTree") U ∧ va_Nw (.methodLinkNest RX1 110 yX3_isKind "LawFromTheTree") U ∧ va_Nw (.methodLinkNest RX1 117 yX3_isVerdict "LawFromTheTree") U ∧ va_Nw (.methodLinkNest RX3 24 yX1_init "LawFromTheTree") U ∧ va_Nw (.methodLinkNest RX3 31 yX2_init "LawFromTheTree") U
theorem NW.warm {s U : State} (hW : s.WarmedH U.vm) (h : NW s) : NW U := ⟨h.1.warmM hW, h.2.1.warmM hW, h.2.2.1.warmM hW, h.2.2.2.1.warmM hW, h.2.2.2.2.1.warmM hW, h.2.2.2.2.2.1.warmM hW, h.2.2.2.2.2.2.warmM hW⟩
theorem NW.same {u U : State} (e : u.vm = U.vm) (h : NW u) : NW U := ⟨va_Nw.same rfl e h.1, va_Nw.same rfl e h.2.1, va_Nw.same rfl e h.2.2.1, va_Nw.same rfl e h.2.2.2.1, va_Nw.same rfl e h.2.2.2.2.1, va_Nw.same rfl e h.2.2.2.2.2.1, va_Nw.same rfl e h.2.2.2.2.2.2⟩
/-- what the tables say, all along -/
def KK (D : va_G) (cI cJ cQ : ClassId) (U : State) : Prop := va_K D vwCl [(cI, .int), (cJ, .long), (cQ, .array .int)] U ∧ NW U
theorem KK.warm {D : va_G} {cI cJ cQ : ClassId} {s U : State} (hW : s.WarmedH U.vm) (h : KK D cI cJ cQ s) : KK D cI cJ cQ U := ⟨va_K.moved hW.alike h.1, h.2.warm hW⟩
theorem KK.same {D : va_G} {cI cJ cQ : ClassId} {u U : State} (e : u.vm = U.vm) (h : KK D cI cJ cQ u) : KK D cI cJ cQ U := ⟨va_K.moved (by rw [e]; exact Vm.Alike.refl U.vm) h.1, h.2.same e⟩
/-- the heap holds the cells ws, they are apart, and nothing outside A has changed since H0 -/
def Hs (D : va_G) (A : Nat → Prop) (H0 : Heap) (ws : va_W) (H : Heap) (locs : List Loc) : Prop := va_P D vwCl ws H ∧ va_D A ws ∧ va_S A H0 H locs
def ctP (D : va_G) (cI cJ cQ : ClassId) (w : va_W) (sz : Nat) (U : State) : Prop := U.heap.size = sz ∧ va_P D vwCl w U.heap ∧ KK D cI cJ cQ U ∧ va_D (fun _ => True) w
def CtI (l : Launch) (D : va_G) (cI cJ cQ : ClassId) (y : MethodName) (ws : List Cond) (rm : Room) (av : List Value) (w : va_W) (r : Int32) (w' : va_W) : Prop := ∀ sz : Nat, Met l y ws rm (va_Pc av (ctP D cI cJ cQ w sz)) (va_Qi (fun (r' : Int32) (_ : Unit) => r' = r) (fun _ t => va_P D vwCl w' t.heap) (va_A w sz)) 0 0 (va_A w sz)
def CtL (l : Launch) (D : va_G) (cI cJ cQ : ClassId) (y : MethodName) (ws : List Cond) (rm : Room) (av : List Value) (w : va_W) (r : Int64) (w' : va_W) : Prop := ∀ sz : Nat, Met l y ws rm (va_Pc av (ctP D cI cJ cQ w sz)) (va_Ql (fun (r' : Int64) (_ : Unit) => r' = r) (fun _ t => va_P D vwCl w' t.heap) (va_A w sz)) 0 0 (va_A w sz)
def CtV (l : Launch) (D : va_G) (cI cJ cQ : ClassId) (y : MethodName) (ws : List Cond) (rm : Room) (av : List Value) (w : va_W) (w' : va_W) : Prop := ∀ sz : Nat, Met l y ws rm (va_Pc av (ctP D cI cJ cQ w sz)) (va_Qv (fun (_ : Unit) => True) (fun _ t => va_P D vwCl w' t.heap) (va_A w sz)) 0 0 (va_A w sz)
def CtR (l : Launch) (D : va_G) (cI cJ cQ : ClassId) (y : MethodName) (ws : List Cond) (rm : Room) (av : List Value) (w : va_W) (r : Nat) (w' : va_W) : Prop := ∀ sz : Nat, Met l y ws rm (va_Pc av (ctP D cI cJ cQ w sz)) (va_Qr (fun (_ : Unit) => True) (fun _ a t => a = r ∧ va_P D vwCl w' t.heap) (va_A w sz)) 0 0 (va_A w sz)
theorem ctP.blind {D : va_G} {cI cJ cQ : ClassId} {w : va_W} {sz : Nat} {av : List Value} : FrameBlind (va_Pc av (ctP D cI cJ cQ w sz)) := fun a U g mk q => by
  obtain ⟨q0, q1, qP, qK, qD⟩ := q
  exact ⟨q0, q1, qP, KK.same (u := U) (U := U.calling g mk a) rfl qK, qD⟩
theorem ctP.pre {D : va_G} {cI cJ cQ : ClassId} {w : va_W} {H : Heap} {s : State} (hK : KK D cI cJ cQ s) (hP : va_P D vwCl w H) {A : Nat → Prop} (hD : va_D A w) {av : List Value} : ∀ U : State, U.heap = H → s.WarmedH U.vm → va_Pc av (ctP D cI cJ cQ w H.size) av.toArray U := fun U hU hW => ⟨rfl, by rw [hU], by rw [hU]; exact hP, hK.warm hW, hD.weaken (fun _ _ _ _ => trivial)⟩

/-! the cells of a callee put back where they were -/
def putAt : va_W → List Nat → va_W → va_W
  | ws, i :: is, e :: es => putAt (ws.set i e) is es
  | ws, _, _ => ws
theorem putAt_len : ∀ (is : List Nat) (es ws : va_W), (putAt ws is es).length = ws.length
  | [], _, _ => by simp [putAt]
  | _ :: _, [], _ => by simp [putAt]
  | i :: is, e :: es, ws => by
    show (putAt (ws.set i e) is es).length = ws.length
    rw [putAt_len is es, List.length_set]
theorem putAt_out : ∀ (is : List Nat) (es ws : va_W) (k : Nat), k ∉ is → (putAt ws is es)[k]? = ws[k]?
  | [], _, _, _, _ => by simp [putAt]
  | _ :: _, [], _, _, _ => by simp [putAt]
  | i :: is, e :: es, ws, k, hk => by
    show (putAt (ws.set i e) is es)[k]? = ws[k]?
    rw [putAt_out is es _ k (fun h => hk (List.mem_cons_of_mem _ h)), List.getElem?_set_ne (fun h => hk (by rw [h]; exact List.mem_cons_self))]
theorem putAt_in : ∀ (is : List Nat) (es ws : va_W) (k : Nat) (q : Nat × va_E), (putAt ws is es)[k]? = some q → k ∈ is → is.length = es.length → ∃ j : Nat, is[j]? = some k ∧ es[j]? = some q
  | [], _, _, _, _, _, h, _ => by cases h
  | _ :: _, [], _, _, _, _, _, h => by simp at h
  | i :: is, e :: es, ws, k, q, hq, hk, hl => by
    by_cases h : k ∈ is
    · obtain ⟨j, h1, h2⟩ := putAt_in is es (ws.set i e) k q hq h (by simpa using hl)
      exact ⟨j + 1, h1, h2⟩
    · have hki : k = i := by
        rcases List.mem_cons.mp hk with h1 | h1
        · exact h1
        · exact absurd h1 h
      subst hki
      have h0 : (putAt (ws.set k e) is es)[k]? = some q := hq
      rw [putAt_out is es _ k h] at h0
      by_cases hlt : k < ws.length
      · rw [List.getElem?_set_self hlt] at h0
        exact ⟨0, rfl, h0⟩
      · rw [List.getElem?_eq_none (by rw [List.length_set]; omega)] at h0
        cases h0
/-- where the cells are depends on the addresses alone -/
theorem va_D.addr {A : Nat → Prop} {ws ws' : va_W} (h : va_D A ws) (e : ws'.map (·.1) = ws.map (·.1)) : va_D A ws' := by
  have at' : ∀ (k : Nat) (q : Nat × va_E), ws'[k]? = some q → ∃ q2 : Nat × va_E, ws[k]? = some q2 ∧ q2.1 = q.1 := by
    intro k q hq
    have h1 : (ws'.map (·.1))[k]? = some q.1 := by rw [List.getElem?_map, hq]; rfl
    rw [e, List.getElem?_map] at h1
    cases h2 : ws[k]? with
    | none => rw [h2] at h1; cases h1
    | some q2 => rw [h2] at h1; exact ⟨q2, rfl, Option.some.inj h1⟩
  refine ⟨fun i j x y hx hy hxy => ?_, fun k q hk => ?_⟩
  · obtain ⟨x2, a1, a2⟩ := at' i x hx
    obtain ⟨y2, b1, b2⟩ := at' j y hy
    exact h.1 i j x2 y2 a1 b1 (by rw [a2, b2, hxy])
  · obtain ⟨q2, a1, a2⟩ := at' k q hk
    rw [← a2]
    exact h.2 k q2 a1
theorem putAt_addr : ∀ (is : List Nat) (wc wc' ws : va_W), is.map (fun i => ws[i]?) = wc.map some → wc'.map (·.1) = wc.map (·.1) → va_nd is = true → (putAt ws is wc').map (·.1) = ws.map (·.1)
  | [], _, _, _, _, _, _ => by simp [putAt]
  | _ :: _, _, [], _, _, _, _ => by simp [putAt]
  | i :: is, [], _ :: _, _, _, h, _ => by simp at h
  | i :: is, c :: wc, e :: es, ws, hC, hA, hn => by
    have hC1 : ws[i]? = some c := by simpa using (List.cons.inj hC).1
    have hC2 : is.map (fun i => ws[i]?) = wc.map some := (List.cons.inj hC).2
    have hA1 : e.1 = c.1 := (List.cons.inj hA).1
    have hA2 : es.map (·.1) = wc.map (·.1) := (List.cons.inj hA).2
    have hset : (ws.set i e).map (·.1) = ws.map (·.1) := by
      apply List.ext_getElem?
      intro k
      rw [List.getElem?_map, List.getElem?_map]
      by_cases hk : i = k
      · subst hk
        have hlt : i < ws.length := (List.getElem?_eq_some_iff.mp hC1).1
        rw [List.getElem?_set_self hlt, hC1]
        show some e.1 = some c.1
        rw [hA1]
      · rw [List.getElem?_set_ne hk]
    have hni : i ∉ is := by
      intro h
      obtain ⟨j, hj⟩ := List.getElem?_of_mem h
      have := va_nd_inj (i :: is) hn 0 (j + 1) i rfl hj
      omega
    have hn2 : va_nd is = true := by
      simp [va_nd] at hn
      exact hn.2
    show (putAt (ws.set i e) is es).map (·.1) = ws.map (·.1)
    rw [putAt_addr is wc es (ws.set i e) ?_ hA2 hn2, hset]
    rw [← hC2]
    apply List.map_congr_left
    intro k hk
    rw [List.getElem?_set_ne (fun h => hni (by rw [h]; exact hk))]
theorem k_join {D : va_G} {A : Nat → Prop} {H0 H H1 : Heap} {locs locs1 : List Loc} {ws wc wc' : va_W} {is : List Nat} (hH : Hs D A H0 ws H locs) (hC : is.map (fun i => ws[i]?) = wc.map some) (ha : wc'.map (·.1) = wc.map (·.1)) (hn : va_nd is = true)
    (hk : ∀ q : Nat, q < H.size → ¬ va_A wc H.size q → H1[q]? = H[q]?) (hP1 : va_P D vwCl wc' H1) (hS : va_S A H0 H1 locs1) : Hs D A H0 (putAt ws is wc') H1 locs1 := by
  obtain ⟨hP, hD, -⟩ := hH
  have hlen : is.length = wc'.length := by
    have h1 := congrArg List.length hC
    have h2 := congrArg List.length ha
    simp at h1 h2
    omega
  refine ⟨fun k q hq => ?_, hD.addr (putAt_addr is wc wc' ws hC ha hn), hS⟩
  by_cases h : k ∈ is
  · obtain ⟨j, hj⟩ := putAt_in is wc' ws k q hq h hlen
    exact hP1 j q hj.2
  · rw [putAt_out is wc' ws k h] at hq
    have hl := (hP k q hq).lt
    refine (hP k q hq).kept (hk q.1 hl (fun hA => ?_))
    rcases hA with ⟨k2, e, h2⟩ | h2
    · have h3 : (is.map (fun i => ws[i]?))[k2]? = some (some (q.1, e)) := by rw [hC, List.getElem?_map, h2]; rfl
      rw [List.getElem?_map] at h3
      cases hi : is[k2]? with
      | none => rw [hi] at h3; cases h3
      | some i =>
        rw [hi] at h3
        have h4 : ws[i]? = some (q.1, e) := Option.some.inj h3
        have h5 := hD.1 k i q (q.1, e) hq h4 rfl
        subst h5
        exact h (List.mem_of_getElem? hi)
    · omega
