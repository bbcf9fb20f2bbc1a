/-! ===== numbers, loops that count ===== -/
theorem lp_run {σ ρ : Type} {body : σ → Option (σ ⊕ ρ)} (St : Nat → σ) (n : Nat) (R : ρ) (hs : ∀ i, i < n → body (St i) = some (.inl (St (i + 1)))) (he : body (St n) = some (.inr R)) : ∀ (k i : Nat), i + k = n → ∀ f, k < f → lp body f (St i) = some R := by
  intro k
  induction k with
  | zero =>
    intro i hi f hf
    obtain ⟨f, rfl⟩ : ∃ f', f = f' + 1 := ⟨f - 1, by omega⟩
    have : i = n := by omega
    subst this
    show (body (St i)).bind _ = _
    rw [he]
    rfl
  | succ k ih =>
    intro i hi f hf
    obtain ⟨f, rfl⟩ : ∃ f', f = f' + 1 := ⟨f - 1, by omega⟩
    show (body (St i)).bind _ = _
    rw [hs i (by omega)]
    exact ih (i + 1) (by omega) f (by omega)
/-- a loop that goes from St 0 to St n, and ends there with R -/
theorem lp_fu {σ ρ : Type} {body : σ → Option (σ ⊕ ρ)} {s0 : σ} (St : Nat → σ) (n : Nat) (R : ρ) (h0 : St 0 = s0) (hs : ∀ i, i < n → body (St i) = some (.inl (St (i + 1)))) (he : body (St n) = some (.inr R)) (hn : n < 1000) : lp body fu s0 = some R := by
  rw [← h0]
  exact lp_run St n R hs he n 0 (by omega) fu hn
theorem n_0 : (0 : Int32) = nI 0 := rfl
theorem if_ob {α : Type} {j N : Nat} {e : Option α} (h : j < N) (hN : N < 2 ^ 31) : (if ob (nI j) N then none else e) = e := if_neg (nI_in h hN)
theorem cl {j : Nat} (h : j < 2 ^ 31) : Int32.toNatClampNeg (nI j) = j := nI_clamp h
theorem cl_0 : Int32.toNatClampNeg 0 = 0 := rfl
theorem cl_1 : Int32.toNatClampNeg 1 = 1 := rfl
theorem cl_2 : Int32.toNatClampNeg 2 = 2 := rfl
theorem cl_3 : Int32.toNatClampNeg 3 = 3 := rfl
theorem irem_n {a d : Nat} (ha : a < 2 ^ 31) (h0 : 0 < d) (hd : d < 2 ^ 31) : irem (nI a) (nI d) = nI (a % d) := pk_rem ha h0 hd
theorem n_or (a b : Nat) : nI a ||| nI b = nI (a ||| b) := by
  apply Int32.toBitVec_inj.mp
  show BitVec.ofNat 32 a ||| BitVec.ofNat 32 b = BitVec.ofNat 32 (a ||| b)
  apply BitVec.eq_of_getLsbD_eq
  intro i hi
  simp [BitVec.getLsbD_ofNat]
theorem n_xor (a b : Nat) : nI a ^^^ nI b = nI (a ^^^ b) := by
  apply Int32.toBitVec_inj.mp
  show BitVec.ofNat 32 a ^^^ BitVec.ofNat 32 b = BitVec.ofNat 32 (a ^^^ b)
  apply BitVec.eq_of_getLsbD_eq
  intro i hi
  simp [BitVec.getLsbD_ofNat, hi]
theorem n_and (a b : Nat) : nI a &&& nI b = nI (a &&& b) := by
  apply Int32.toBitVec_inj.mp
  show BitVec.ofNat 32 a &&& BitVec.ofNat 32 b = BitVec.ofNat 32 (a &&& b)
  apply BitVec.eq_of_getLsbD_eq
  intro i hi
  simp [BitVec.getLsbD_ofNat, hi]
theorem n_shl : ∀ k, k < 16 → (1 : Int32) <<< (nI k &&& 31) = nI (2 ^ k) := by decide +kernel
theorem n_cnt : ∀ k, k < 16 → ((nI k &&& 31).toBitVec.smod 32).toNat = k := by decide +kernel
theorem n_shr {a k : Nat} (ha : a < 2 ^ 31) (hk : k < 16) : (nI a >>> (nI k &&& 31)) &&& 1 = nI (a / 2 ^ k % 2) := by
  rw [pk_shrN ha _ k (n_cnt k hk)]
  exact pk_andN (Nat.lt_of_le_of_lt (Nat.div_le_self _ _) (by omega)) 1 (by decide)
theorem tb_iff (a k : Nat) : a / 2 ^ k % 2 = 1 ↔ a.testBit k = true := by
  rw [Nat.testBit_eq_decide_div_mod_eq]
  simp
theorem n_bit {a k : Nat} (ha : a < 2 ^ 31) (hk : k < 16) : ((nI a >>> (nI k &&& 31)) &&& 1 = (1 : Int32)) ↔ a.testBit k = true := by
  rw [n_shr ha hk, ← tb_iff]
  exact nI_eq (a := a / 2 ^ k % 2) (b := 1) (by omega) (by omega)
theorem n_le {a b : Nat} (ha : a < 2 ^ 31) (hb : b < 2 ^ 31) : (nI a ≤ nI b) ↔ a ≤ b := nI_leI ha hb
theorem n_lt {a b : Nat} (ha : a < 2 ^ 31) (hb : b < 2 ^ 31) : (nI a < nI b) ↔ a < b := nI_ltI ha hb
theorem n_eq {a b : Nat} (ha : a < 2 ^ 31) (hb : b < 2 ^ 31) : (nI a = nI b) ↔ a = b := nI_eq ha hb
theorem n_max {a b : Nat} (ha : a < 2 ^ 31) (hb : b < 2 ^ 31) : imax (nI a) (nI b) = nI (max a b) := by
  unfold imax
  by_cases h : a < b
  · rw [if_pos ((n_lt ha hb).mpr h), Nat.max_eq_right (by omega)]
  · rw [if_neg (fun q => h ((n_lt ha hb).mp q)), Nat.max_eq_left (by omega)]
theorem n_m1 {a : Nat} (ha : a < 2 ^ 31) : (-1 : Int32) < nI a := by
  rw [Int32.lt_iff_toInt_lt, nI_toInt ha]
  show (-1 : Int) < _
  omega
theorem n_m9 {a : Nat} (ha : a < 2 ^ 31) : (-9 : Int32) < nI a := by
  rw [Int32.lt_iff_toInt_lt, nI_toInt ha]
  show (-9 : Int) < _
  omega
/-- an answer of a search: none is -9 -/
def oN : Option Nat → Int32
  | none => -9
  | some d => nI d
theorem isIn_t {v : Int32} {a b : Nat} {k : Nat} (hv : v = nI k) (h1 : a ≤ k) (h2 : k ≤ b) (hb : b < 2 ^ 31) : fX4_isIn v (nI a) (nI b) = some 1 := by
  unfold fX4_isIn
  subst hv
  rw [if_neg (fun q => by have := (n_lt (by omega) (by omega)).mp q; omega), if_neg (fun q => by have := (n_lt (by omega) (by omega)).mp q; omega)]
theorem isIn_cases (v : Int32) {a b : Nat} (hb : b < 2 ^ 31) (hab : a ≤ b) : (fX4_isIn v (nI a) (nI b) = some 0 ∧ ¬ ∃ k, a ≤ k ∧ k ≤ b ∧ v = nI k) ∨ (fX4_isIn v (nI a) (nI b) = some 1 ∧ ∃ k, a ≤ k ∧ k ≤ b ∧ v = nI k) := by
  unfold fX4_isIn
  by_cases h1 : v < nI a
  · rw [if_pos h1]
    refine Or.inl ⟨rfl, ?_⟩
    rintro ⟨k, hk1, hk2, rfl⟩
    have := (n_lt (by omega) (by omega)).mp h1
    omega
  · rw [if_neg h1]
    by_cases h2 : nI b < v
    · rw [if_pos h2]
      refine Or.inl ⟨rfl, ?_⟩
      rintro ⟨k, hk1, hk2, rfl⟩
      have := (n_lt (by omega) (by omega)).mp h2
      omega
    · rw [if_neg h2]
      refine Or.inr ⟨rfl, ?_⟩
      have h3 : ¬ v < 0 := fun q => h1 (by
        rw [Int32.lt_iff_toInt_lt] at q ⊢
        rw [nI_toInt (by omega)]
        have : (0 : Int32).toInt = 0 := rfl
        omega)
      obtain ⟨k, hk, rfl⟩ := nI_of h3
      refine ⟨k, ?_, ?_, rfl⟩
      · have h4 : ¬ k < a := fun q => h1 ((n_lt hk (by omega)).mpr q)
        omega
      · have h4 : ¬ b < k := fun q => h2 ((n_lt (by omega) hk).mpr q)
        omega
theorem isW_eq (v a b : Int32) : fX3_isWithin v a b = fX4_isIn v a b := rfl
theorem bo_0 : bo 0 = some 0 := rfl
theorem bo_1 : bo 1 = some 1 := rfl
/-- how many bits a set has -/
def bitsN (S : Nat) : Nat → Nat
  | 0 => 0
  | k + 1 => bitsN S k + S / 2 ^ k % 2
theorem bitsN_le (S : Nat) : ∀ k, bitsN S k ≤ k
  | 0 => Nat.le_refl 0
  | k + 1 => by
    have := bitsN_le S k
    show bitsN S k + S / 2 ^ k % 2 ≤ k + 1
    omega
theorem bitC : ∀ S, S < 1024 → fJ6_bitCount_0f7a4 (nI S) = some (nI (bitsN S 16)) := by decide +kernel
theorem bits_eq {S : Nat} (hS : S < 2 ^ 31) : fX4_bits (nI S) = some (nI (bitsN S 16)) := by
  unfold fX4_bits
  have hL : lp (bX4_bits_4 (nI S)) fu (0, 0) = some (nI (bitsN S 16)) := by
    refine lp_fu (fun i => (nI (bitsN S i), nI i)) 16 (nI (bitsN S 16)) rfl ?_ ?_ (by omega)
    · intro i hi
      dsimp only [bX4_bits_4]
      rw [if_neg (fun q => by have := (n_le (a := 16) (b := i) (by omega) (by omega)).mp q; omega), n_shr hS hi, nI_add, nI_1]
      rfl
    · rfl
  rw [hL]
  rfl
