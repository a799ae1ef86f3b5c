/-! DUEL: bits of what is left on one side, a table on the other -/
def chN (j : Nat) : Nat := if j = 0 then 0 else if j = 1 then 1 else if j = 2 then 2 else 4
theorem gch_N : ∀ j, j < 4 → gch j = nI (chN j) := by decide +kernel
theorem chN_8 : ∀ j, chN j < 8 := by
  intro j
  unfold chN
  split
  · omega
  · split
    · omega
    · split <;> omega
def awT (gr : Nat → Nat) (rc : Nat → Nat) (k c j : Nat) (x : Nat) : Nat := match bh gr (c ||| chN j) k with
  | none => x
  | some t => if c &&& chN j = 0 then x &&& (rc t * 2 ^ pc6 (c ||| chN j) ||| (2 ^ pc6 (c ||| chN j) - 1)) else x
def awA (gr : Nat → Nat) (rc : Nat → Nat) (k c i0 : Nat) : Nat → Nat
  | 0 => i0
  | j + 1 => awT gr rc k c j (awA gr rc k c i0 j)
def wcN (gr : Nat → Nat) (rc : Nat → Nat) (k c : Nat) : Nat := match bh gr c k with
  | none => 0
  | some _ => awA gr rc k c (if c = 0 then 1023 else 1022) 4
def orA (f : Nat → Nat) : Nat → Nat
  | 0 => 0
  | j + 1 => orA f j ||| f j
/-- by what is left the friend has it, r hours from the end -/
def won (G : Nat → Nat → Nat) (w : Nat) : Nat → Nat → Nat
  | 0, k => if w &&& k = 0 then 0 else 1023
  | r + 1, k => if w &&& k = 0 then orA (fun j => wcN (G (5 - r)) (won G w r) k (chN j)) 4 else 1023
theorem awT_le (gr : Nat → Nat) (rc : Nat → Nat) (k c j x : Nat) : awT gr rc k c j x ≤ x := by
  unfold awT
  split
  · exact Nat.le_refl _
  · split
    · exact Nat.and_le_left
    · exact Nat.le_refl _
theorem awA_le (gr : Nat → Nat) (rc : Nat → Nat) (k c i0 : Nat) : ∀ j, awA gr rc k c i0 j ≤ i0
  | 0 => Nat.le_refl _
  | j + 1 => Nat.le_trans (awT_le _ _ _ _ _ _) (awA_le gr rc k c i0 j)
theorem wcN_lt (gr : Nat → Nat) (rc : Nat → Nat) (k c : Nat) : wcN gr rc k c < 1024 := by
  unfold wcN
  split
  · omega
  · have := awA_le gr rc k c (if c = 0 then 1023 else 1022) 4
    have h2 : (if c = 0 then 1023 else 1022) ≤ 1023 := by split <;> omega
    omega
theorem orA_lt {f : Nat → Nat} (h : ∀ j, f j < 1024) : ∀ j, orA f j < 1024
  | 0 => by simp [orA]
  | j + 1 => Nat.or_lt_two_pow (n := 10) (orA_lt h j) (h j)
theorem won_lt (G : Nat → Nat → Nat) (w r k : Nat) : won G w r k < 1024 := by
  cases r with
  | zero =>
    rw [won]
    split <;> omega
  | succ r =>
    rw [won]
    split
    · exact orA_lt (fun j => wcN_lt _ _ _ _) 4
    · omega
/-- the reference's -/
def mayB (gr : Nat → Nat) (k l a : Nat) : Bool := decide (a = 3) || (decide (0 < l) && canB (gr a) k)
def canO (gr : Nat → Nat) (k rest a b : Nat) : Bool := decide (b = 3) || (decide (b ≠ a) && (decide (0 < rest) && canB (gr b) k))
def t3 (a : Nat) : Nat := if a < 3 then 1 else 0
def alB (gr : Nat → Nat) (v : Nat → Nat → Bool) (k l a : Nat) : Nat → Bool
  | 0 => mayB gr k l a
  | b + 1 => alB gr v k l a b && (!(canO gr k (l - t3 a) a b) || v (k ||| gr3 gr a ||| gr3 gr b) (l - t3 a - t3 b))
def smB (gr : Nat → Nat) (v : Nat → Nat → Bool) (k l : Nat) : Nat → Bool
  | 0 => false
  | a + 1 => smB gr v k l a || alB gr v k l a 4
def vI (G : Nat → Nat → Nat) (p : Nat) : Nat → Nat → Nat → Bool
  | 0, k, _ => k.testBit p
  | r + 1, k, l => smB (G (5 - r)) (vI G p r) k l 4
theorem alB_f {gr : Nat → Nat} {v : Nat → Nat → Bool} {k l a b : Nat} (h : alB gr v k l a b = false) : ∀ c, alB gr v k l a (b + c) = false
  | 0 => h
  | c + 1 => by
    have := alB_f h c
    rw [← Nat.add_assoc, alB, this]
    rfl
theorem bhs (gr : Nat → Nat) (k : Nat) : bh gr 1 k = (if canB (gr 0) k then some (k ||| gr 0) else none) ∧ bh gr 2 k = (if canB (gr 1) k then some (k ||| gr 1) else none) ∧ bh gr 4 k = (if canB (gr 2) k then some (k ||| gr 2) else none) ∧ bh gr 3 k = (if canB (gr 0) k && canB (gr 1) k then some (k ||| gr 0 ||| gr 1) else none) ∧ bh gr 5 k = (if canB (gr 0) k && canB (gr 2) k then some (k ||| gr 0 ||| gr 2) else none) ∧ bh gr 6 k = (if canB (gr 1) k && canB (gr 2) k then some (k ||| gr 1 ||| gr 2) else none) := by
  have b10 : Nat.testBit 1 0 = true := rfl
  have b11 : Nat.testBit 1 1 = false := rfl
  have b12 : Nat.testBit 1 2 = false := rfl
  have b20 : Nat.testBit 2 0 = false := rfl
  have b21 : Nat.testBit 2 1 = true := rfl
  have b22 : Nat.testBit 2 2 = false := rfl
  have b30 : Nat.testBit 3 0 = true := rfl
  have b31 : Nat.testBit 3 1 = true := rfl
  have b32 : Nat.testBit 3 2 = false := rfl
  have b40 : Nat.testBit 4 0 = false := rfl
  have b41 : Nat.testBit 4 1 = false := rfl
  have b42 : Nat.testBit 4 2 = true := rfl
  have b50 : Nat.testBit 5 0 = true := rfl
  have b51 : Nat.testBit 5 1 = false := rfl
  have b52 : Nat.testBit 5 2 = true := rfl
  have b60 : Nat.testBit 6 0 = false := rfl
  have b61 : Nat.testBit 6 1 = true := rfl
  have b62 : Nat.testBit 6 2 = true := rfl
  refine ⟨?_, ?_, ?_, ?_, ?_, ?_⟩ <;> cases h0 : canB (gr 0) k <;> cases h1 : canB (gr 1) k <;> cases h2 : canB (gr 2) k <;> simp only [bh, bhA, b10, b11, b12, b20, b21, b22, b30, b31, b32, b40, b41, b42, b50, b51, b52, b60, b61, b62, h0, h1, h2, if_true, if_false, Bool.and_true, Bool.and_false, Bool.false_eq_true]
theorem bt_cost (x c l : Nat) : (x * 2 ^ c ||| (2 ^ c - 1)).testBit l = (decide (l < c) || x.testBit (l - c)) := by
  rw [Nat.testBit_or, Nat.testBit_two_pow_sub_one, Nat.testBit_mul_two_pow]
  by_cases h : l < c
  · simp [h]
  · simp [h, Nat.not_lt.mp h]
theorem bt_1023 : ∀ l, l ≤ 9 → Nat.testBit 1023 l = true := by decide +kernel
theorem bt_1022 : ∀ l, l ≤ 9 → Nat.testBit 1022 l = decide (0 < l) := by decide +kernel
/-- one answer, as a bit -/
def fT (gr : Nat → Nat) (rc : Nat → Nat) (k c j l : Nat) : Bool := match bh gr (c ||| chN j) k with
  | none => true
  | some t => if c &&& chN j = 0 then decide (l < pc6 (c ||| chN j)) || (rc t).testBit (l - pc6 (c ||| chN j)) else true
theorem awT_b (gr : Nat → Nat) (rc : Nat → Nat) (k c j x l : Nat) : (awT gr rc k c j x).testBit l = (x.testBit l && fT gr rc k c j l) := by
  unfold awT fT
  split
  · rw [Bool.and_true]
  · split
    · rw [Nat.testBit_and, bt_cost]
    · rw [Bool.and_true]
theorem wcN_b (gr : Nat → Nat) (rc : Nat → Nat) (k c l : Nat) (hl : l ≤ 9) : (wcN gr rc k c).testBit l = ((bh gr c k).isSome && (decide (c = 0) || decide (0 < l)) && fT gr rc k c 0 l && fT gr rc k c 1 l && fT gr rc k c 2 l && fT gr rc k c 3 l) := by
  unfold wcN
  cases bh gr c k with
  | none => simp
  | some s =>
    dsimp only
    simp only [awA, awT_b]
    have e : (if c = 0 then 1023 else 1022).testBit l = (decide (c = 0) || decide (0 < l)) := by
      by_cases h : c = 0
      · rw [if_pos h, bt_1023 l hl]; simp [h]
      · rw [if_neg h, bt_1022 l hl]; simp [h]
    rw [e]
    simp
theorem chs : chN 0 = 0 ∧ chN 1 = 1 ∧ chN 2 = 2 ∧ chN 3 = 4 := ⟨rfl, rfl, rfl, rfl⟩
theorem pcs : pc6 0 = 0 ∧ pc6 1 = 1 ∧ pc6 2 = 1 ∧ pc6 4 = 1 ∧ pc6 3 = 2 ∧ pc6 5 = 2 ∧ pc6 6 = 2 := by decide +kernel
theorem ors : (0 ||| 0 : Nat) = 0 ∧ (0 ||| 1 : Nat) = 1 ∧ (0 ||| 2 : Nat) = 2 ∧ (0 ||| 4 : Nat) = 4 ∧ (1 ||| 0 : Nat) = 1 ∧ (1 ||| 1 : Nat) = 1 ∧ (1 ||| 2 : Nat) = 3 ∧ (1 ||| 4 : Nat) = 5 ∧ (2 ||| 0 : Nat) = 2 ∧ (2 ||| 1 : Nat) = 3 ∧ (2 ||| 2 : Nat) = 2 ∧ (2 ||| 4 : Nat) = 6 ∧ (4 ||| 0 : Nat) = 4 ∧ (4 ||| 1 : Nat) = 5 ∧ (4 ||| 2 : Nat) = 6 ∧ (4 ||| 4 : Nat) = 4 := by decide +kernel
theorem ans : (0 &&& 0 : Nat) = 0 ∧ (0 &&& 1 : Nat) = 0 ∧ (0 &&& 2 : Nat) = 0 ∧ (0 &&& 4 : Nat) = 0 ∧ (1 &&& 0 : Nat) = 0 ∧ (1 &&& 1 : Nat) = 1 ∧ (1 &&& 2 : Nat) = 0 ∧ (1 &&& 4 : Nat) = 0 ∧ (2 &&& 0 : Nat) = 0 ∧ (2 &&& 1 : Nat) = 0 ∧ (2 &&& 2 : Nat) = 2 ∧ (2 &&& 4 : Nat) = 0 ∧ (4 &&& 0 : Nat) = 0 ∧ (4 &&& 1 : Nat) = 0 ∧ (4 &&& 2 : Nat) = 0 ∧ (4 &&& 4 : Nat) = 4 := by decide +kernel
theorem fT_00 {gr : Nat → Nat} {rc : Nat → Nat} {v : Nat → Nat → Bool} {k l : Nat} (hk : k < 64) (hg : ∀ a, gr a < 64) (hl : l ≤ 9) (hv : ∀ t e, t < 64 → e ≤ 9 → (rc t).testBit e = v t e) (h0 : 0 < l) (hc : canB (gr 0) k = true) : fT gr rc k 1 1 l = (!(canO gr k (l - t3 0) 0 0) || v (k ||| gr3 gr 0 ||| gr3 gr 0) (l - t3 0 - t3 0)) := by
  have e1 : 1 ||| chN 1 = 1 := rfl
  have e2 : 1 &&& chN 1 = 1 := rfl
  have e3 : pc6 1 = 1 := by decide +kernel
  unfold fT
  rw [e1, e2, e3, (bhs gr k).1]
  have e4 : canO gr k (l - t3 0) 0 0 = false := by simp [canO]
  rw [e4]
  rw [hc]
  simp
theorem fT_01 {gr : Nat → Nat} {rc : Nat → Nat} {v : Nat → Nat → Bool} {k l : Nat} (hk : k < 64) (hg : ∀ a, gr a < 64) (hl : l ≤ 9) (hv : ∀ t e, t < 64 → e ≤ 9 → (rc t).testBit e = v t e) (h0 : 0 < l) (hc : canB (gr 0) k = true) : fT gr rc k 1 2 l = (!(canO gr k (l - t3 0) 0 1) || v (k ||| gr3 gr 0 ||| gr3 gr 1) (l - t3 0 - t3 1)) := by
  have e1 : 1 ||| chN 2 = 3 := rfl
  have e2 : 1 &&& chN 2 = 0 := rfl
  have e3 : pc6 3 = 2 := by decide +kernel
  unfold fT
  rw [e1, e2, e3, (bhs gr k).2.2.2.1]
  have em : k ||| gr3 gr 0 ||| gr3 gr 1 = k ||| gr 0 ||| gr 1 := by
    rw [gr3_t (gr := gr) (a := 0) (by omega), gr3_t (gr := gr) (a := 1) (by omega)]
  rw [em, show t3 0 = 1 from rfl, show t3 1 = 1 from rfl]
  have hb := hv (k ||| gr 0 ||| gr 1) (l - 2) (or_lt64 (or_lt64 hk (hg 0)) (hg 1)) (by omega)
  have e4 : canO gr k (l - 1) 0 1 = (decide (2 ≤ l) && canB (gr 1) k) := by
    unfold canO
    have z1 : decide ((1 : Nat) = 3) = false := rfl
    have z2 : decide ((1 : Nat) ≠ 0) = true := rfl
    have z3 : decide (0 < l - 1) = decide (2 ≤ l) := by rw [decide_eq_decide]; omega
    rw [z1, z2, z3]
    rfl
  rw [e4]
  rw [hc]
  have e5 : l - 1 - 1 = l - 2 := by omega
  rw [e5, ← hb]
  cases canB (gr 1) k with
  | false => simp
  | true =>
    by_cases z : 2 ≤ l
    · have z1 : decide (l < 2) = false := decide_eq_false (by omega)
      have z2 : decide (2 ≤ l) = true := decide_eq_true z
      simp [z1, z2] <;> first | (intro z; omega) | exact Or.inl (by omega)
    · have z1 : decide (l < 2) = true := decide_eq_true (by omega)
      have z2 : decide (2 ≤ l) = false := decide_eq_false z
      simp [z1, z2] <;> first | (intro z; omega) | exact Or.inl (by omega)
theorem fT_02 {gr : Nat → Nat} {rc : Nat → Nat} {v : Nat → Nat → Bool} {k l : Nat} (hk : k < 64) (hg : ∀ a, gr a < 64) (hl : l ≤ 9) (hv : ∀ t e, t < 64 → e ≤ 9 → (rc t).testBit e = v t e) (h0 : 0 < l) (hc : canB (gr 0) k = true) : fT gr rc k 1 3 l = (!(canO gr k (l - t3 0) 0 2) || v (k ||| gr3 gr 0 ||| gr3 gr 2) (l - t3 0 - t3 2)) := by
  have e1 : 1 ||| chN 3 = 5 := rfl
  have e2 : 1 &&& chN 3 = 0 := rfl
  have e3 : pc6 5 = 2 := by decide +kernel
  unfold fT
  rw [e1, e2, e3, (bhs gr k).2.2.2.2.1]
  have em : k ||| gr3 gr 0 ||| gr3 gr 2 = k ||| gr 0 ||| gr 2 := by
    rw [gr3_t (gr := gr) (a := 0) (by omega), gr3_t (gr := gr) (a := 2) (by omega)]
  rw [em, show t3 0 = 1 from rfl, show t3 2 = 1 from rfl]
  have hb := hv (k ||| gr 0 ||| gr 2) (l - 2) (or_lt64 (or_lt64 hk (hg 0)) (hg 2)) (by omega)
  have e4 : canO gr k (l - 1) 0 2 = (decide (2 ≤ l) && canB (gr 2) k) := by
    unfold canO
    have z1 : decide ((2 : Nat) = 3) = false := rfl
    have z2 : decide ((2 : Nat) ≠ 0) = true := rfl
    have z3 : decide (0 < l - 1) = decide (2 ≤ l) := by rw [decide_eq_decide]; omega
    rw [z1, z2, z3]
    rfl
  rw [e4]
  rw [hc]
  have e5 : l - 1 - 1 = l - 2 := by omega
  rw [e5, ← hb]
  cases canB (gr 2) k with
  | false => simp
  | true =>
    by_cases z : 2 ≤ l
    · have z1 : decide (l < 2) = false := decide_eq_false (by omega)
      have z2 : decide (2 ≤ l) = true := decide_eq_true z
      simp [z1, z2] <;> first | (intro z; omega) | exact Or.inl (by omega)
    · have z1 : decide (l < 2) = true := decide_eq_true (by omega)
      have z2 : decide (2 ≤ l) = false := decide_eq_false z
      simp [z1, z2] <;> first | (intro z; omega) | exact Or.inl (by omega)
theorem fT_03 {gr : Nat → Nat} {rc : Nat → Nat} {v : Nat → Nat → Bool} {k l : Nat} (hk : k < 64) (hg : ∀ a, gr a < 64) (hl : l ≤ 9) (hv : ∀ t e, t < 64 → e ≤ 9 → (rc t).testBit e = v t e) (h0 : 0 < l) (hc : canB (gr 0) k = true) : fT gr rc k 1 0 l = (!(canO gr k (l - t3 0) 0 3) || v (k ||| gr3 gr 0 ||| gr3 gr 3) (l - t3 0 - t3 3)) := by
  have e1 : 1 ||| chN 0 = 1 := rfl
  have e2 : 1 &&& chN 0 = 0 := rfl
  have e3 : pc6 1 = 1 := by decide +kernel
  unfold fT
  rw [e1, e2, e3, (bhs gr k).1]
  have em : k ||| gr3 gr 0 ||| gr3 gr 3 = k ||| gr 0 := by
    rw [gr3_f (gr := gr) (a := 3) (by omega), Nat.or_zero, gr3_t (gr := gr) (a := 0) (by omega)]
  rw [em, show t3 0 = 1 from rfl, show t3 3 = 0 from rfl]
  have hb := hv (k ||| gr 0) (l - 1) (or_lt64 hk (hg 0)) (by omega)
  have e4 : canO gr k (l - 1) 0 3 = true := by simp [canO]
  rw [e4]
  rw [hc]
  have e5 : l - 1 - 0 = l - 1 := by omega
  rw [e5, ← hb]
  have e6 : decide (l < 1) = false := decide_eq_false (by omega)
  simp [e6] <;> (intro z; omega)
theorem wc_0 {gr : Nat → Nat} {rc : Nat → Nat} {v : Nat → Nat → Bool} {k l : Nat} (hk : k < 64) (hg : ∀ a, gr a < 64) (hl : l ≤ 9) (hv : ∀ t e, t < 64 → e ≤ 9 → (rc t).testBit e = v t e) : (wcN gr rc k (chN 1)).testBit l = alB gr v k l 0 4 := by
  rw [show chN 1 = 1 from rfl, wcN_b gr rc k 1 l hl]
  have em : mayB gr k l 0 = (decide (0 < l) && canB (gr 0) k) := by
    unfold mayB
    rw [show decide ((0 : Nat) = 3) = false from rfl]
    rfl
  by_cases h0 : 0 < l
  · cases hc : canB (gr 0) k with
    | true =>
      rw [fT_00 hk hg hl hv h0 hc, fT_01 hk hg hl hv h0 hc, fT_02 hk hg hl hv h0 hc, fT_03 hk hg hl hv h0 hc, (bhs gr k).1]
      simp only [alB, em, hc, if_true, Option.isSome_some, decide_eq_true h0, Bool.or_true, Bool.true_and]
      generalize (!(canO gr k (l - t3 0) 0 0) || v (k ||| gr3 gr 0 ||| gr3 gr 0) (l - t3 0 - t3 0)) = x0
      generalize (!(canO gr k (l - t3 0) 0 1) || v (k ||| gr3 gr 0 ||| gr3 gr 1) (l - t3 0 - t3 1)) = x1
      generalize (!(canO gr k (l - t3 0) 0 2) || v (k ||| gr3 gr 0 ||| gr3 gr 2) (l - t3 0 - t3 2)) = x2
      generalize (!(canO gr k (l - t3 0) 0 3) || v (k ||| gr3 gr 0 ||| gr3 gr 3) (l - t3 0 - t3 3)) = x3
      cases x0 <;> cases x1 <;> cases x2 <;> cases x3 <;> rfl
    | false =>
      rw [(bhs gr k).1, hc]
      have z := alB_f (gr := gr) (v := v) (k := k) (l := l) (a := 0) (b := 0) (by rw [alB, em, hc, Bool.and_false]) 4
      rw [z]
      rfl
  · have z := alB_f (gr := gr) (v := v) (k := k) (l := l) (a := 0) (b := 0) (by rw [alB, em, decide_eq_false h0]; rfl) 4
    rw [z, decide_eq_false h0, show decide ((1 : Nat) = 0) = false from rfl]
    simp
theorem fT_10 {gr : Nat → Nat} {rc : Nat → Nat} {v : Nat → Nat → Bool} {k l : Nat} (hk : k < 64) (hg : ∀ a, gr a < 64) (hl : l ≤ 9) (hv : ∀ t e, t < 64 → e ≤ 9 → (rc t).testBit e = v t e) (h0 : 0 < l) (hc : canB (gr 1) k = true) : fT gr rc k 2 1 l = (!(canO gr k (l - t3 1) 1 0) || v (k ||| gr3 gr 1 ||| gr3 gr 0) (l - t3 1 - t3 0)) := by
  have e1 : 2 ||| chN 1 = 3 := rfl
  have e2 : 2 &&& chN 1 = 0 := rfl
  have e3 : pc6 3 = 2 := by decide +kernel
  unfold fT
  rw [e1, e2, e3, (bhs gr k).2.2.2.1]
  have em : k ||| gr3 gr 1 ||| gr3 gr 0 = k ||| gr 0 ||| gr 1 := by
    rw [gr3_t (gr := gr) (a := 1) (by omega), gr3_t (gr := gr) (a := 0) (by omega), Nat.or_assoc, Nat.or_comm (gr 1) (gr 0), ← Nat.or_assoc]
  rw [em, show t3 1 = 1 from rfl, show t3 0 = 1 from rfl]
  have hb := hv (k ||| gr 0 ||| gr 1) (l - 2) (or_lt64 (or_lt64 hk (hg 0)) (hg 1)) (by omega)
  have e4 : canO gr k (l - 1) 1 0 = (decide (2 ≤ l) && canB (gr 0) k) := by
    unfold canO
    have z1 : decide ((0 : Nat) = 3) = false := rfl
    have z2 : decide ((0 : Nat) ≠ 1) = true := rfl
    have z3 : decide (0 < l - 1) = decide (2 ≤ l) := by rw [decide_eq_decide]; omega
    rw [z1, z2, z3]
    rfl
  rw [e4]
  rw [hc]
  have e5 : l - 1 - 1 = l - 2 := by omega
  rw [e5, ← hb]
  cases canB (gr 0) k with
  | false => simp
  | true =>
    by_cases z : 2 ≤ l
    · have z1 : decide (l < 2) = false := decide_eq_false (by omega)
      have z2 : decide (2 ≤ l) = true := decide_eq_true z
      simp [z1, z2] <;> first | (intro z; omega) | exact Or.inl (by omega)
    · have z1 : decide (l < 2) = true := decide_eq_true (by omega)
      have z2 : decide (2 ≤ l) = false := decide_eq_false z
      simp [z1, z2] <;> first | (intro z; omega) | exact Or.inl (by omega)
theorem fT_11 {gr : Nat → Nat} {rc : Nat → Nat} {v : Nat → Nat → Bool} {k l : Nat} (hk : k < 64) (hg : ∀ a, gr a < 64) (hl : l ≤ 9) (hv : ∀ t e, t < 64 → e ≤ 9 → (rc t).testBit e = v t e) (h0 : 0 < l) (hc : canB (gr 1) k = true) : fT gr rc k 2 2 l = (!(canO gr k (l - t3 1) 1 1) || v (k ||| gr3 gr 1 ||| gr3 gr 1) (l - t3 1 - t3 1)) := by
  have e1 : 2 ||| chN 2 = 2 := rfl
  have e2 : 2 &&& chN 2 = 2 := rfl
  have e3 : pc6 2 = 1 := by decide +kernel
  unfold fT
  rw [e1, e2, e3, (bhs gr k).2.1]
  have e4 : canO gr k (l - t3 1) 1 1 = false := by simp [canO]
  rw [e4]
  rw [hc]
  simp
theorem fT_12 {gr : Nat → Nat} {rc : Nat → Nat} {v : Nat → Nat → Bool} {k l : Nat} (hk : k < 64) (hg : ∀ a, gr a < 64) (hl : l ≤ 9) (hv : ∀ t e, t < 64 → e ≤ 9 → (rc t).testBit e = v t e) (h0 : 0 < l) (hc : canB (gr 1) k = true) : fT gr rc k 2 3 l = (!(canO gr k (l - t3 1) 1 2) || v (k ||| gr3 gr 1 ||| gr3 gr 2) (l - t3 1 - t3 2)) := by
  have e1 : 2 ||| chN 3 = 6 := rfl
  have e2 : 2 &&& chN 3 = 0 := rfl
  have e3 : pc6 6 = 2 := by decide +kernel
  unfold fT
  rw [e1, e2, e3, (bhs gr k).2.2.2.2.2]
  have em : k ||| gr3 gr 1 ||| gr3 gr 2 = k ||| gr 1 ||| gr 2 := by
    rw [gr3_t (gr := gr) (a := 1) (by omega), gr3_t (gr := gr) (a := 2) (by omega)]
  rw [em, show t3 1 = 1 from rfl, show t3 2 = 1 from rfl]
  have hb := hv (k ||| gr 1 ||| gr 2) (l - 2) (or_lt64 (or_lt64 hk (hg 1)) (hg 2)) (by omega)
  have e4 : canO gr k (l - 1) 1 2 = (decide (2 ≤ l) && canB (gr 2) k) := by
    unfold canO
    have z1 : decide ((2 : Nat) = 3) = false := rfl
    have z2 : decide ((2 : Nat) ≠ 1) = true := rfl
    have z3 : decide (0 < l - 1) = decide (2 ≤ l) := by rw [decide_eq_decide]; omega
    rw [z1, z2, z3]
    rfl
  rw [e4]
  rw [hc]
  have e5 : l - 1 - 1 = l - 2 := by omega
  rw [e5, ← hb]
  cases canB (gr 2) k with
  | false => simp
  | true =>
    by_cases z : 2 ≤ l
    · have z1 : decide (l < 2) = false := decide_eq_false (by omega)
      have z2 : decide (2 ≤ l) = true := decide_eq_true z
      simp [z1, z2] <;> first | (intro z; omega) | exact Or.inl (by omega)
    · have z1 : decide (l < 2) = true := decide_eq_true (by omega)
      have z2 : decide (2 ≤ l) = false := decide_eq_false z
      simp [z1, z2] <;> first | (intro z; omega) | exact Or.inl (by omega)
theorem fT_13 {gr : Nat → Nat} {rc : Nat → Nat} {v : Nat → Nat → Bool} {k l : Nat} (hk : k < 64) (hg : ∀ a, gr a < 64) (hl : l ≤ 9) (hv : ∀ t e, t < 64 → e ≤ 9 → (rc t).testBit e = v t e) (h0 : 0 < l) (hc : canB (gr 1) k = true) : fT gr rc k 2 0 l = (!(canO gr k (l - t3 1) 1 3) || v (k ||| gr3 gr 1 ||| gr3 gr 3) (l - t3 1 - t3 3)) := by
  have e1 : 2 ||| chN 0 = 2 := rfl
  have e2 : 2 &&& chN 0 = 0 := rfl
  have e3 : pc6 2 = 1 := by decide +kernel
  unfold fT
  rw [e1, e2, e3, (bhs gr k).2.1]
  have em : k ||| gr3 gr 1 ||| gr3 gr 3 = k ||| gr 1 := by
    rw [gr3_f (gr := gr) (a := 3) (by omega), Nat.or_zero, gr3_t (gr := gr) (a := 1) (by omega)]
  rw [em, show t3 1 = 1 from rfl, show t3 3 = 0 from rfl]
  have hb := hv (k ||| gr 1) (l - 1) (or_lt64 hk (hg 1)) (by omega)
  have e4 : canO gr k (l - 1) 1 3 = true := by simp [canO]
  rw [e4]
  rw [hc]
  have e5 : l - 1 - 0 = l - 1 := by omega
  rw [e5, ← hb]
  have e6 : decide (l < 1) = false := decide_eq_false (by omega)
  simp [e6] <;> (intro z; omega)
theorem wc_1 {gr : Nat → Nat} {rc : Nat → Nat} {v : Nat → Nat → Bool} {k l : Nat} (hk : k < 64) (hg : ∀ a, gr a < 64) (hl : l ≤ 9) (hv : ∀ t e, t < 64 → e ≤ 9 → (rc t).testBit e = v t e) : (wcN gr rc k (chN 2)).testBit l = alB gr v k l 1 4 := by
  rw [show chN 2 = 2 from rfl, wcN_b gr rc k 2 l hl]
  have em : mayB gr k l 1 = (decide (0 < l) && canB (gr 1) k) := by
    unfold mayB
    rw [show decide ((1 : Nat) = 3) = false from rfl]
    rfl
  by_cases h0 : 0 < l
  · cases hc : canB (gr 1) k with
    | true =>
      rw [fT_10 hk hg hl hv h0 hc, fT_11 hk hg hl hv h0 hc, fT_12 hk hg hl hv h0 hc, fT_13 hk hg hl hv h0 hc, (bhs gr k).2.1]
      simp only [alB, em, hc, if_true, Option.isSome_some, decide_eq_true h0, Bool.or_true, Bool.true_and]
      generalize (!(canO gr k (l - t3 1) 1 0) || v (k ||| gr3 gr 1 ||| gr3 gr 0) (l - t3 1 - t3 0)) = x0
      generalize (!(canO gr k (l - t3 1) 1 1) || v (k ||| gr3 gr 1 ||| gr3 gr 1) (l - t3 1 - t3 1)) = x1
      generalize (!(canO gr k (l - t3 1) 1 2) || v (k ||| gr3 gr 1 ||| gr3 gr 2) (l - t3 1 - t3 2)) = x2
      generalize (!(canO gr k (l - t3 1) 1 3) || v (k ||| gr3 gr 1 ||| gr3 gr 3) (l - t3 1 - t3 3)) = x3
      cases x0 <;> cases x1 <;> cases x2 <;> cases x3 <;> rfl
    | false =>
      rw [(bhs gr k).2.1, hc]
      have z := alB_f (gr := gr) (v := v) (k := k) (l := l) (a := 1) (b := 0) (by rw [alB, em, hc, Bool.and_false]) 4
      rw [z]
      rfl
  · have z := alB_f (gr := gr) (v := v) (k := k) (l := l) (a := 1) (b := 0) (by rw [alB, em, decide_eq_false h0]; rfl) 4
    rw [z, decide_eq_false h0, show decide ((2 : Nat) = 0) = false from rfl]
    simp
theorem fT_20 {gr : Nat → Nat} {rc : Nat → Nat} {v : Nat → Nat → Bool} {k l : Nat} (hk : k < 64) (hg : ∀ a, gr a < 64) (hl : l ≤ 9) (hv : ∀ t e, t < 64 → e ≤ 9 → (rc t).testBit e = v t e) (h0 : 0 < l) (hc : canB (gr 2) k = true) : fT gr rc k 4 1 l = (!(canO gr k (l - t3 2) 2 0) || v (k ||| gr3 gr 2 ||| gr3 gr 0) (l - t3 2 - t3 0)) := by
  have e1 : 4 ||| chN 1 = 5 := rfl
  have e2 : 4 &&& chN 1 = 0 := rfl
  have e3 : pc6 5 = 2 := by decide +kernel
  unfold fT
  rw [e1, e2, e3, (bhs gr k).2.2.2.2.1]
  have em : k ||| gr3 gr 2 ||| gr3 gr 0 = k ||| gr 0 ||| gr 2 := by
    rw [gr3_t (gr := gr) (a := 2) (by omega), gr3_t (gr := gr) (a := 0) (by omega), Nat.or_assoc, Nat.or_comm (gr 2) (gr 0), ← Nat.or_assoc]
  rw [em, show t3 2 = 1 from rfl, show t3 0 = 1 from rfl]
  have hb := hv (k ||| gr 0 ||| gr 2) (l - 2) (or_lt64 (or_lt64 hk (hg 0)) (hg 2)) (by omega)
  have e4 : canO gr k (l - 1) 2 0 = (decide (2 ≤ l) && canB (gr 0) k) := by
    unfold canO
    have z1 : decide ((0 : Nat) = 3) = false := rfl
    have z2 : decide ((0 : Nat) ≠ 2) = true := rfl
    have z3 : decide (0 < l - 1) = decide (2 ≤ l) := by rw [decide_eq_decide]; omega
    rw [z1, z2, z3]
    rfl
  rw [e4]
  rw [hc]
  have e5 : l - 1 - 1 = l - 2 := by omega
  rw [e5, ← hb]
  cases canB (gr 0) k with
  | false => simp
  | true =>
    by_cases z : 2 ≤ l
    · have z1 : decide (l < 2) = false := decide_eq_false (by omega)
      have z2 : decide (2 ≤ l) = true := decide_eq_true z
      simp [z1, z2] <;> first | (intro z; omega) | exact Or.inl (by omega)
    · have z1 : decide (l < 2) = true := decide_eq_true (by omega)
      have z2 : decide (2 ≤ l) = false := decide_eq_false z
      simp [z1, z2] <;> first | (intro z; omega) | exact Or.inl (by omega)
theorem fT_21 {gr : Nat → Nat} {rc : Nat → Nat} {v : Nat → Nat → Bool} {k l : Nat} (hk : k < 64) (hg : ∀ a, gr a < 64) (hl : l ≤ 9) (hv : ∀ t e, t < 64 → e ≤ 9 → (rc t).testBit e = v t e) (h0 : 0 < l) (hc : canB (gr 2) k = true) : fT gr rc k 4 2 l = (!(canO gr k (l - t3 2) 2 1) || v (k ||| gr3 gr 2 ||| gr3 gr 1) (l - t3 2 - t3 1)) := by
  have e1 : 4 ||| chN 2 = 6 := rfl
  have e2 : 4 &&& chN 2 = 0 := rfl
  have e3 : pc6 6 = 2 := by decide +kernel
  unfold fT
  rw [e1, e2, e3, (bhs gr k).2.2.2.2.2]
  have em : k ||| gr3 gr 2 ||| gr3 gr 1 = k ||| gr 1 ||| gr 2 := by
    rw [gr3_t (gr := gr) (a := 2) (by omega), gr3_t (gr := gr) (a := 1) (by omega), Nat.or_assoc, Nat.or_comm (gr 2) (gr 1), ← Nat.or_assoc]
  rw [em, show t3 2 = 1 from rfl, show t3 1 = 1 from rfl]
  have hb := hv (k ||| gr 1 ||| gr 2) (l - 2) (or_lt64 (or_lt64 hk (hg 1)) (hg 2)) (by omega)
  have e4 : canO gr k (l - 1) 2 1 = (decide (2 ≤ l) && canB (gr 1) k) := by
    unfold canO
    have z1 : decide ((1 : Nat) = 3) = false := rfl
    have z2 : decide ((1 : Nat) ≠ 2) = true := rfl
    have z3 : decide (0 < l - 1) = decide (2 ≤ l) := by rw [decide_eq_decide]; omega
    rw [z1, z2, z3]
    rfl
  rw [e4]
  rw [hc]
  have e5 : l - 1 - 1 = l - 2 := by omega
  rw [e5, ← hb]
  cases canB (gr 1) k with
  | false => simp
  | true =>
    by_cases z : 2 ≤ l
    · have z1 : decide (l < 2) = false := decide_eq_false (by omega)
      have z2 : decide (2 ≤ l) = true := decide_eq_true z
      simp [z1, z2] <;> first | (intro z; omega) | exact Or.inl (by omega)
    · have z1 : decide (l < 2) = true := decide_eq_true (by omega)
      have z2 : decide (2 ≤ l) = false := decide_eq_false z
      simp [z1, z2] <;> first | (intro z; omega) | exact Or.inl (by omega)
theorem fT_22 {gr : Nat → Nat} {rc : Nat → Nat} {v : Nat → Nat → Bool} {k l : Nat} (hk : k < 64) (hg : ∀ a, gr a < 64) (hl : l ≤ 9) (hv : ∀ t e, t < 64 → e ≤ 9 → (rc t).testBit e = v t e) (h0 : 0 < l) (hc : canB (gr 2) k = true) : fT gr rc k 4 3 l = (!(canO gr k (l - t3 2) 2 2) || v (k ||| gr3 gr 2 ||| gr3 gr 2) (l - t3 2 - t3 2)) := by
  have e1 : 4 ||| chN 3 = 4 := rfl
  have e2 : 4 &&& chN 3 = 4 := rfl
  have e3 : pc6 4 = 1 := by decide +kernel
  unfold fT
  rw [e1, e2, e3, (bhs gr k).2.2.1]
  have e4 : canO gr k (l - t3 2) 2 2 = false := by simp [canO]
  rw [e4]
  rw [hc]
  simp
theorem fT_23 {gr : Nat → Nat} {rc : Nat → Nat} {v : Nat → Nat → Bool} {k l : Nat} (hk : k < 64) (hg : ∀ a, gr a < 64) (hl : l ≤ 9) (hv : ∀ t e, t < 64 → e ≤ 9 → (rc t).testBit e = v t e) (h0 : 0 < l) (hc : canB (gr 2) k = true) : fT gr rc k 4 0 l = (!(canO gr k (l - t3 2) 2 3) || v (k ||| gr3 gr 2 ||| gr3 gr 3) (l - t3 2 - t3 3)) := by
  have e1 : 4 ||| chN 0 = 4 := rfl
  have e2 : 4 &&& chN 0 = 0 := rfl
  have e3 : pc6 4 = 1 := by decide +kernel
  unfold fT
  rw [e1, e2, e3, (bhs gr k).2.2.1]
  have em : k ||| gr3 gr 2 ||| gr3 gr 3 = k ||| gr 2 := by
    rw [gr3_f (gr := gr) (a := 3) (by omega), Nat.or_zero, gr3_t (gr := gr) (a := 2) (by omega)]
  rw [em, show t3 2 = 1 from rfl, show t3 3 = 0 from rfl]
  have hb := hv (k ||| gr 2) (l - 1) (or_lt64 hk (hg 2)) (by omega)
  have e4 : canO gr k (l - 1) 2 3 = true := by simp [canO]
  rw [e4]
  rw [hc]
  have e5 : l - 1 - 0 = l - 1 := by omega
  rw [e5, ← hb]
  have e6 : decide (l < 1) = false := decide_eq_false (by omega)
  simp [e6] <;> (intro z; omega)
theorem wc_2 {gr : Nat → Nat} {rc : Nat → Nat} {v : Nat → Nat → Bool} {k l : Nat} (hk : k < 64) (hg : ∀ a, gr a < 64) (hl : l ≤ 9) (hv : ∀ t e, t < 64 → e ≤ 9 → (rc t).testBit e = v t e) : (wcN gr rc k (chN 3)).testBit l = alB gr v k l 2 4 := by
  rw [show chN 3 = 4 from rfl, wcN_b gr rc k 4 l hl]
  have em : mayB gr k l 2 = (decide (0 < l) && canB (gr 2) k) := by
    unfold mayB
    rw [show decide ((2 : Nat) = 3) = false from rfl]
    rfl
  by_cases h0 : 0 < l
  · cases hc : canB (gr 2) k with
    | true =>
      rw [fT_20 hk hg hl hv h0 hc, fT_21 hk hg hl hv h0 hc, fT_22 hk hg hl hv h0 hc, fT_23 hk hg hl hv h0 hc, (bhs gr k).2.2.1]
      simp only [alB, em, hc, if_true, Option.isSome_some, decide_eq_true h0, Bool.or_true, Bool.true_and]
      generalize (!(canO gr k (l - t3 2) 2 0) || v (k ||| gr3 gr 2 ||| gr3 gr 0) (l - t3 2 - t3 0)) = x0
      generalize (!(canO gr k (l - t3 2) 2 1) || v (k ||| gr3 gr 2 ||| gr3 gr 1) (l - t3 2 - t3 1)) = x1
      generalize (!(canO gr k (l - t3 2) 2 2) || v (k ||| gr3 gr 2 ||| gr3 gr 2) (l - t3 2 - t3 2)) = x2
      generalize (!(canO gr k (l - t3 2) 2 3) || v (k ||| gr3 gr 2 ||| gr3 gr 3) (l - t3 2 - t3 3)) = x3
      cases x0 <;> cases x1 <;> cases x2 <;> cases x3 <;> rfl
    | false =>
      rw [(bhs gr k).2.2.1, hc]
      have z := alB_f (gr := gr) (v := v) (k := k) (l := l) (a := 2) (b := 0) (by rw [alB, em, hc, Bool.and_false]) 4
      rw [z]
      rfl
  · have z := alB_f (gr := gr) (v := v) (k := k) (l := l) (a := 2) (b := 0) (by rw [alB, em, decide_eq_false h0]; rfl) 4
    rw [z, decide_eq_false h0, show decide ((4 : Nat) = 0) = false from rfl]
    simp
theorem fT_30 {gr : Nat → Nat} {rc : Nat → Nat} {v : Nat → Nat → Bool} {k l : Nat} (hk : k < 64) (hg : ∀ a, gr a < 64) (hl : l ≤ 9) (hv : ∀ t e, t < 64 → e ≤ 9 → (rc t).testBit e = v t e) : fT gr rc k 0 1 l = (!(canO gr k (l - t3 3) 3 0) || v (k ||| gr3 gr 3 ||| gr3 gr 0) (l - t3 3 - t3 0)) := by
  have e1 : 0 ||| chN 1 = 1 := rfl
  have e2 : 0 &&& chN 1 = 0 := rfl
  have e3 : pc6 1 = 1 := by decide +kernel
  unfold fT
  rw [e1, e2, e3, (bhs gr k).1]
  have em : k ||| gr3 gr 3 ||| gr3 gr 0 = k ||| gr 0 := by
    rw [gr3_f (gr := gr) (a := 3) (by omega), Nat.or_zero, gr3_t (gr := gr) (a := 0) (by omega)]
  rw [em, show t3 3 = 0 from rfl, show t3 0 = 1 from rfl]
  have hb := hv (k ||| gr 0) (l - 1) (or_lt64 hk (hg 0)) (by omega)
  have e4 : canO gr k (l - 0) 3 0 = (decide (1 ≤ l) && canB (gr 0) k) := by
    unfold canO
    have z1 : decide ((0 : Nat) = 3) = false := rfl
    have z2 : decide ((0 : Nat) ≠ 3) = true := rfl
    have z3 : decide (0 < l - 0) = decide (1 ≤ l) := by rw [decide_eq_decide]; omega
    rw [z1, z2, z3]
    rfl
  rw [e4]
  have e5 : l - 0 - 1 = l - 1 := by omega
  rw [e5, ← hb]
  cases canB (gr 0) k with
  | false => simp
  | true =>
    by_cases z : 1 ≤ l
    · have z1 : decide (l < 1) = false := decide_eq_false (by omega)
      have z2 : decide (1 ≤ l) = true := decide_eq_true z
      simp [z1, z2] <;> first | (intro z; omega) | exact Or.inl (by omega)
    · have z1 : decide (l < 1) = true := decide_eq_true (by omega)
      have z2 : decide (1 ≤ l) = false := decide_eq_false z
      simp [z1, z2] <;> first | (intro z; omega) | exact Or.inl (by omega)
theorem fT_31 {gr : Nat → Nat} {rc : Nat → Nat} {v : Nat → Nat → Bool} {k l : Nat} (hk : k < 64) (hg : ∀ a, gr a < 64) (hl : l ≤ 9) (hv : ∀ t e, t < 64 → e ≤ 9 → (rc t).testBit e = v t e) : fT gr rc k 0 2 l = (!(canO gr k (l - t3 3) 3 1) || v (k ||| gr3 gr 3 ||| gr3 gr 1) (l - t3 3 - t3 1)) := by
  have e1 : 0 ||| chN 2 = 2 := rfl
  have e2 : 0 &&& chN 2 = 0 := rfl
  have e3 : pc6 2 = 1 := by decide +kernel
  unfold fT
  rw [e1, e2, e3, (bhs gr k).2.1]
  have em : k ||| gr3 gr 3 ||| gr3 gr 1 = k ||| gr 1 := by
    rw [gr3_f (gr := gr) (a := 3) (by omega), Nat.or_zero, gr3_t (gr := gr) (a := 1) (by omega)]
  rw [em, show t3 3 = 0 from rfl, show t3 1 = 1 from rfl]
  have hb := hv (k ||| gr 1) (l - 1) (or_lt64 hk (hg 1)) (by omega)
  have e4 : canO gr k (l - 0) 3 1 = (decide (1 ≤ l) && canB (gr 1) k) := by
    unfold canO
    have z1 : decide ((1 : Nat) = 3) = false := rfl
    have z2 : decide ((1 : Nat) ≠ 3) = true := rfl
    have z3 : decide (0 < l - 0) = decide (1 ≤ l) := by rw [decide_eq_decide]; omega
    rw [z1, z2, z3]
    rfl
  rw [e4]
  have e5 : l - 0 - 1 = l - 1 := by omega
  rw [e5, ← hb]
  cases canB (gr 1) k with
  | false => simp
  | true =>
    by_cases z : 1 ≤ l
    · have z1 : decide (l < 1) = false := decide_eq_false (by omega)
      have z2 : decide (1 ≤ l) = true := decide_eq_true z
      simp [z1, z2] <;> first | (intro z; omega) | exact Or.inl (by omega)
    · have z1 : decide (l < 1) = true := decide_eq_true (by omega)
      have z2 : decide (1 ≤ l) = false := decide_eq_false z
      simp [z1, z2] <;> first | (intro z; omega) | exact Or.inl (by omega)
theorem fT_32 {gr : Nat → Nat} {rc : Nat → Nat} {v : Nat → Nat → Bool} {k l : Nat} (hk : k < 64) (hg : ∀ a, gr a < 64) (hl : l ≤ 9) (hv : ∀ t e, t < 64 → e ≤ 9 → (rc t).testBit e = v t e) : fT gr rc k 0 3 l = (!(canO gr k (l - t3 3) 3 2) || v (k ||| gr3 gr 3 ||| gr3 gr 2) (l - t3 3 - t3 2)) := by
  have e1 : 0 ||| chN 3 = 4 := rfl
  have e2 : 0 &&& chN 3 = 0 := rfl
  have e3 : pc6 4 = 1 := by decide +kernel
  unfold fT
  rw [e1, e2, e3, (bhs gr k).2.2.1]
  have em : k ||| gr3 gr 3 ||| gr3 gr 2 = k ||| gr 2 := by
    rw [gr3_f (gr := gr) (a := 3) (by omega), Nat.or_zero, gr3_t (gr := gr) (a := 2) (by omega)]
  rw [em, show t3 3 = 0 from rfl, show t3 2 = 1 from rfl]
  have hb := hv (k ||| gr 2) (l - 1) (or_lt64 hk (hg 2)) (by omega)
  have e4 : canO gr k (l - 0) 3 2 = (decide (1 ≤ l) && canB (gr 2) k) := by
    unfold canO
    have z1 : decide ((2 : Nat) = 3) = false := rfl
    have z2 : decide ((2 : Nat) ≠ 3) = true := rfl
    have z3 : decide (0 < l - 0) = decide (1 ≤ l) := by rw [decide_eq_decide]; omega
    rw [z1, z2, z3]
    rfl
  rw [e4]
  have e5 : l - 0 - 1 = l - 1 := by omega
  rw [e5, ← hb]
  cases canB (gr 2) k with
  | false => simp
  | true =>
    by_cases z : 1 ≤ l
    · have z1 : decide (l < 1) = false := decide_eq_false (by omega)
      have z2 : decide (1 ≤ l) = true := decide_eq_true z
      simp [z1, z2] <;> first | (intro z; omega) | exact Or.inl (by omega)
    · have z1 : decide (l < 1) = true := decide_eq_true (by omega)
      have z2 : decide (1 ≤ l) = false := decide_eq_false z
      simp [z1, z2] <;> first | (intro z; omega) | exact Or.inl (by omega)
theorem fT_33 {gr : Nat → Nat} {rc : Nat → Nat} {v : Nat → Nat → Bool} {k l : Nat} (hk : k < 64) (hg : ∀ a, gr a < 64) (hl : l ≤ 9) (hv : ∀ t e, t < 64 → e ≤ 9 → (rc t).testBit e = v t e) : fT gr rc k 0 0 l = (!(canO gr k (l - t3 3) 3 3) || v (k ||| gr3 gr 3 ||| gr3 gr 3) (l - t3 3 - t3 3)) := by
  have e1 : 0 ||| chN 0 = 0 := rfl
  have e2 : 0 &&& chN 0 = 0 := rfl
  have e3 : pc6 0 = 0 := by decide +kernel
  unfold fT
  rw [e1, e2, e3, (bh_0 gr k)]
  have em : k ||| gr3 gr 3 ||| gr3 gr 3 = k := by
    rw [gr3_f (gr := gr) (a := 3) (by omega), Nat.or_zero, Nat.or_zero]
  rw [em, show t3 3 = 0 from rfl]
  have hb := hv (k) (l - 0) hk (by omega)
  have e4 : canO gr k (l - 0) 3 3 = true := by simp [canO]
  rw [e4]
  have e5 : l - 0 - 0 = l - 0 := by omega
  rw [e5, ← hb]
  simp
theorem wc_3 {gr : Nat → Nat} {rc : Nat → Nat} {v : Nat → Nat → Bool} {k l : Nat} (hk : k < 64) (hg : ∀ a, gr a < 64) (hl : l ≤ 9) (hv : ∀ t e, t < 64 → e ≤ 9 → (rc t).testBit e = v t e) : (wcN gr rc k (chN 0)).testBit l = alB gr v k l 3 4 := by
  rw [show chN 0 = 0 from rfl, wcN_b gr rc k 0 l hl, fT_30 hk hg hl hv, fT_31 hk hg hl hv, fT_32 hk hg hl hv, fT_33 hk hg hl hv, bh_0]
  simp only [alB, show mayB gr k l 3 = true by simp [mayB]]
  simp only [Option.isSome_some, decide_true, Bool.true_or, Bool.true_and]
  generalize (!(canO gr k (l - t3 3) 3 0) || v (k ||| gr3 gr 3 ||| gr3 gr 0) (l - t3 3 - t3 0)) = x0
  generalize (!(canO gr k (l - t3 3) 3 1) || v (k ||| gr3 gr 3 ||| gr3 gr 1) (l - t3 3 - t3 1)) = x1
  generalize (!(canO gr k (l - t3 3) 3 2) || v (k ||| gr3 gr 3 ||| gr3 gr 2) (l - t3 3 - t3 2)) = x2
  generalize (!(canO gr k (l - t3 3) 3 3) || v (k ||| gr3 gr 3 ||| gr3 gr 3) (l - t3 3 - t3 3)) = x3
  cases x0 <;> cases x1 <;> cases x2 <;> cases x3 <;> rfl
theorem vI_t {G : Nat → Nat → Nat} {p : Nat} : ∀ r k l, k.testBit p = true → vI G p r k l = true
  | 0, k, l, h => h
  | r + 1, k, l, h => by
    have hv : ∀ a b e, vI G p r (k ||| a ||| b) e = true := fun a b e => vI_t r _ _ (by rw [Nat.testBit_or, Nat.testBit_or, h]; rfl)
    have ea : alB (G (5 - r)) (vI G p r) k l 3 4 = true := by
      simp only [alB, hv, Bool.or_true, Bool.and_true]
      simp [mayB]
    rw [vI, smB, ea, Bool.or_true]
theorem dw_bit : ∀ p, p < 6 → ∀ k, k < 64 → ((2 ^ p &&& k = 0) ↔ k.testBit p = false) := fun p hp k hk => (ft_1 p hp k hk).2
theorem won_eq {G : Nat → Nat → Nat} {p : Nat} (hp : p < 6) (hg : ∀ h a, G h a < 64) : ∀ r k l, k < 64 → l ≤ 9 → (won G (2 ^ p) r k).testBit l = vI G p r k l
  | 0, k, l, hk, hl => by
    rw [won, vI]
    cases hb : k.testBit p with
    | false => rw [if_pos ((dw_bit p hp k hk).mpr hb)]; simp
    | true =>
      rw [if_neg (fun z => by rw [(dw_bit p hp k hk).mp z] at hb; cases hb)]
      exact bt_1023 l hl
  | r + 1, k, l, hk, hl => by
    cases hb : k.testBit p with
    | true =>
      rw [won, if_neg (fun z => by rw [(dw_bit p hp k hk).mp z] at hb; cases hb), vI_t _ _ _ hb]
      exact bt_1023 l hl
    | false =>
      have ih := won_eq hp hg r
      have hv : ∀ t e, t < 64 → e ≤ 9 → (won G (2 ^ p) r t).testBit e = vI G p r t e := fun t e ht he => ih t e ht he
      rw [won, if_pos ((dw_bit p hp k hk).mpr hb), vI]
      simp only [orA, smB, Nat.testBit_or, Nat.zero_testBit, wc_0 hk (hg _) hl hv, wc_1 hk (hg _) hl hv, wc_2 hk (hg _) hl hv, wc_3 hk (hg _) hl hv]
      generalize alB (G (5 - r)) (vI G p r) k l 0 4 = x0
      generalize alB (G (5 - r)) (vI G p r) k l 1 4 = x1
      generalize alB (G (5 - r)) (vI G p r) k l 2 4 = x2
      generalize alB (G (5 - r)) (vI G p r) k l 3 4 = x3
      cases x0 <;> cases x1 <;> cases x2 <;> cases x3 <;> rfl
