/-! WHO IS WHERE, AND WHO KNOWS IT BEHIND AN HOUR: the pure words that both sides are told in -/
/-- of the first p people those that are at place a in hour h (w: six hours a person) -/
def th (w : Nat → Int32) (a : Int32) (h : Nat) : Nat → Nat
  | 0 => 0
  | p + 1 => th w a h p ||| (if w (6 * p + h) = a then 2 ^ p else 0)
theorem or_lt64 {a b : Nat} (ha : a < 64) (hb : b < 64) : a ||| b < 64 := Nat.or_lt_two_pow (n := 6) ha hb
theorem th_lt (w : Nat → Int32) (a : Int32) (h : Nat) : ∀ p, th w a h p < 2 ^ p
  | 0 => by simp [th]
  | p + 1 => by
    have ih := th_lt w a h p
    have e : 2 ^ p < 2 ^ (p + 1) := Nat.pow_lt_pow_right (by omega) (by omega)
    have e0 : 0 < 2 ^ p := Nat.two_pow_pos p
    simp only [th]
    refine Nat.or_lt_two_pow (by omega) ?_
    split <;> omega
theorem th_64 (w : Nat → Int32) (a : Int32) (h : Nat) {p : Nat} (hp : p ≤ 6) : th w a h p < 64 :=
  Nat.lt_of_lt_of_le (th_lt w a h p) (Nat.pow_le_pow_right (n := 2) (by omega) hp)
/-- the groups of an hour -/
def grp (w : Nat → Int32) (P h a : Nat) : Nat := th w (nI a) h P
theorem grp_64 (w : Nat → Int32) {P : Nat} (h a : Nat) (hp : P ≤ 6) : grp w P h a < 64 := th_64 w _ h hp
/-- it may be told at a group, if k know it -/
def canB (g k : Nat) : Bool := decide (1 < pc6 g) && !(decide (g &&& k = 0))
/-- who knows it behind tellings at the places of S among the first j -/
def bhA (gr : Nat → Nat) (S k : Nat) : Nat → Option Nat
  | 0 => some k
  | j + 1 => match bhA gr S k j with
    | none => none
    | some s => if S.testBit j then (if canB (gr j) k then some (s ||| gr j) else none) else some s
def bh (gr : Nat → Nat) (S k : Nat) : Option Nat := bhA gr S k 3
theorem bhA_none {gr : Nat → Nat} {S k j : Nat} (h : bhA gr S k j = none) : ∀ i, bhA gr S k (j + i) = none
  | 0 => h
  | i + 1 => by
    have := bhA_none h i
    rw [← Nat.add_assoc]
    simp only [bhA, this]
theorem bhA_lt {gr : Nat → Nat} {S k : Nat} (hk : k < 64) (hg : ∀ a, gr a < 64) : ∀ {j s : Nat}, bhA gr S k j = some s → s < 64
  | 0, s, h => by
    simp only [bhA, Option.some.injEq] at h
    omega
  | j + 1, s, h => by
    simp only [bhA] at h
    cases hb : bhA gr S k j with
    | none => rw [hb] at h; cases h
    | some z =>
      rw [hb] at h
      dsimp only at h
      have hz := bhA_lt hk hg hb
      by_cases h1 : S.testBit j = true
      · rw [if_pos h1] at h
        by_cases h2 : canB (gr j) k = true
        · rw [if_pos h2] at h
          cases h
          exact or_lt64 hz (hg j)
        · rw [if_neg h2] at h; cases h
      · rw [if_neg h1] at h
        cases h
        exact hz
theorem bh_lt {gr : Nat → Nat} {S k s : Nat} (hk : k < 64) (hg : ∀ a, gr a < 64) (h : bh gr S k = some s) : s < 64 := bhA_lt hk hg h
/-- none as a number of its own -/
def oI (e : Int32) : Option Nat → Int32
  | none => e
  | some s => nI s
