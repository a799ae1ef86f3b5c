/-! NUMBERS: bits of small numbers, booleans, ranges -/
theorem nb_and (a b : Nat) : nI a &&& nI b = nI (a &&& b) := by
  apply Int32.toBitVec_inj.1
  show BitVec.ofNat 32 a &&& BitVec.ofNat 32 b = BitVec.ofNat 32 (a &&& b)
  apply BitVec.eq_of_getLsbD_eq
  intro i hi
  simp [hi]
theorem nb_or (a b : Nat) : nI a ||| nI b = nI (a ||| b) := by
  apply Int32.toBitVec_inj.1
  show BitVec.ofNat 32 a ||| BitVec.ofNat 32 b = BitVec.ofNat 32 (a ||| b)
  apply BitVec.eq_of_getLsbD_eq
  intro i hi
  simp [hi]
theorem nb_sl : ∀ n, n < 32 → ((nI n &&& 31).toBitVec.smod 32).toNat = n := by decide +kernel
theorem nb_shr {a j : Nat} (ha : a < 2 ^ 31) (hj : j < 32) : nI a >>> (nI j &&& 31) = nI (a / 2 ^ j) := pk_shrN ha _ j (nb_sl j hj)
theorem nb_shl {a j : Nat} (hj : j < 32) (h : a * 2 ^ j < 2 ^ 32) : nI a <<< (nI j &&& 31) = nI (a * 2 ^ j) := pk_shlN _ j (nb_sl j hj) h
theorem nb_one {j : Nat} (hj : j < 32) : nI 1 <<< (nI j &&& 31) = nI (2 ^ j) := by
  rw [nb_shl hj (by rw [Nat.one_mul]; exact Nat.pow_lt_pow_right (by omega) hj), Nat.one_mul]
theorem nb_bit {a j : Nat} (ha : a < 2 ^ 31) (hj : j < 32) : nI a >>> (nI j &&& 31) &&& nI 1 = nI (a / 2 ^ j % 2) := by
  rw [nb_shr ha hj, nb_and, Nat.and_one_is_mod]
theorem nb_tb (a j : Nat) : a / 2 ^ j % 2 = if a.testBit j then 1 else 0 := by
  rw [Nat.testBit_eq_decide_div_mod_eq]
  have : a / 2 ^ j % 2 < 2 := Nat.mod_lt _ (by omega)
  by_cases h : a / 2 ^ j % 2 = 1
  · simp [h]
  · simp [h]; omega
/-- how many of the six -/
def pcA (a : Nat) : Nat → Nat
  | 0 => 0
  | k + 1 => pcA a k + a / 2 ^ k % 2
def pc6 (a : Nat) : Nat := pcA a 6
theorem pcA_le (a : Nat) : ∀ k, pcA a k ≤ k
  | 0 => Nat.le_refl _
  | k + 1 => by
    have := pcA_le a k
    have h2 : a / 2 ^ k % 2 < 2 := Nat.mod_lt _ (by omega)
    simp only [pcA]
    omega
theorem pc6_le (a : Nat) : pc6 a ≤ 6 := pcA_le a 6
/-- a boolean as the machine has it -/
def bI (b : Bool) : Int32 := bif b then nI 1 else nI 0
theorem bI_0 {b : Bool} : bI b = 0 ↔ b = false := by cases b <;> decide +kernel
theorem bI_n0 {b : Bool} : ¬ bI b = 0 ↔ b = true := by cases b <;> decide +kernel
theorem bI_z (b : Bool) : bI b = 0 ∨ bI b = 1 := by cases b <;> decide +kernel
theorem bI_T {b : Bool} (h : b = true) : bI b = nI 1 := by rw [h]; rfl
theorem bI_F {b : Bool} (h : b = false) : bI b = nI 0 := by rw [h]; rfl
/-- x is one of 0 .. n - 1 -/
def iR (x : Int32) (n : Nat) : Bool := decide (0 ≤ x.toInt) && decide (x.toInt < n)
theorem iR_of {x : Int32} {n : Nat} (h : iR x n = true) : ∃ j, j < n ∧ x = nI j := by
  simp only [iR, Bool.and_eq_true, decide_eq_true_eq] at h
  refine ⟨x.toInt.toNat, by omega, ?_⟩
  apply Int32.toInt_inj.mp
  have hx := Int32.toInt_lt x
  rw [nI_toInt (by omega)]
  omega
theorem iR_nI {j n : Nat} (h : j < n) (hn : n < 2 ^ 31) : iR (nI j) n = true := by
  simp only [iR, Bool.and_eq_true, decide_eq_true_eq]
  rw [nI_toInt (by omega)]
  omega
theorem iR_f {x : Int32} {n : Nat} (h : iR x n = false) : x < 0 ∨ (n : Int) ≤ x.toInt := by
  simp only [iR, Bool.and_eq_false_iff, decide_eq_false_iff_not] at h
  rcases h with h | h
  · exact Or.inl (by rw [Int32.lt_iff_toInt_lt, Int32.toInt_zero]; omega)
  · exact Or.inr (by omega)
theorem t64_le (x y : Int32) : x.toInt64 ≤ y.toInt64 ↔ x.toInt ≤ y.toInt := by
  rw [Int64.le_iff_toInt_le, Int32.toInt_toInt64, Int32.toInt_toInt64]
theorem nI_subI {a b : Nat} (ha : a < 2 ^ 30) (hb : b < 2 ^ 30) : (nI a - nI b).toInt = (a : Int) - b := pk_sub_toInt ha hb
theorem iR_in (x : Int32) {n : Nat} (hn : n < 2 ^ 30) : (decide ((0 : Int64) ≤ x.toInt64) && decide (x.toInt64 ≤ (nI n - nI 1).toInt64)) = iR x n := by
  have h1 : ((0 : Int64) ≤ x.toInt64) ↔ 0 ≤ x.toInt := by
    rw [Int64.le_iff_toInt_le, Int32.toInt_toInt64]
    rfl
  have h2 : (x.toInt64 ≤ (nI n - nI 1).toInt64) ↔ x.toInt < n := by
    rw [t64_le, nI_subI hn (by omega)]
    omega
  simp only [iR, h1, h2]
/-- which cells a method may have changed -/
def Fr (S : List Nat) (m m' : gMem) : Prop := m'.2 = m.2 ∧ ∀ k, k ∉ S → m'.1 k = m.1 k
theorem Fr.rf (S : List Nat) (m : gMem) : Fr S m m := ⟨rfl, fun _ _ => rfl⟩
theorem Fr.trans {S : List Nat} {m m1 m2 : gMem} (h : Fr S m m1) (h' : Fr S m1 m2) : Fr S m m2 := ⟨h'.1.trans h.1, fun k hk => (h'.2 k hk).trans (h.2 k hk)⟩
theorem Fr.mono {S S' : List Nat} {m m1 : gMem} (h : Fr S m m1) (hs : ∀ k ∈ S, k ∈ S') : Fr S' m m1 := ⟨h.1, fun k hk => h.2 k (fun z => hk (hs k z))⟩
theorem Fr.up {S : List Nat} {m m1 : gMem} (h : Fr S m m1) {k : Nat} (hk : k ∈ S) (i : Nat) (x : Int32) : Fr S m (gup m1 k i x) := by
  refine ⟨h.1, fun k' hk' => ?_⟩
  have hne : k' ≠ k := fun e => hk' (e ▸ hk)
  rw [← h.2 k' hk']
  funext j
  simp [gup, gbeq hne]
theorem gup_s (m : gMem) (k i : Nat) (x : Int32) : (gup m k i x).1 k i = x := by simp [gup]
theorem gup_i (m : gMem) {k i j : Nat} (x : Int32) (h : j ≠ i) : (gup m k i x).1 k j = m.1 k j := by simp [gup, gbeq h]
theorem gup_k (m : gMem) {k k' i : Nat} (x : Int32) (h : k' ≠ k) : (gup m k i x).1 k' = m.1 k' := by
  funext j
  simp [gup, gbeq h]
theorem gup_if (m : gMem) (k i j : Nat) (x : Int32) : (gup m k i x).1 k j = if j = i then x else m.1 k j := by
  by_cases h : j = i
  · rw [h, gup_s, if_pos rfl]
  · rw [gup_i m x h, if_neg h]
