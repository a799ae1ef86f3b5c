/-! CHANCE -/
theorem in_2 (x : Int32) : (decide ((0 : Int64) ≤ x.toInt64) && decide (x.toInt64 ≤ 2)) = iR x 3 := by
  rw [← iR_in x (n := 3) (by omega), show (nI 3 - nI 1).toInt64 = 2 by decide +kernel]
theorem in_10 (x : Int32) : (decide ((0 : Int64) ≤ x.toInt64) && decide (x.toInt64 ≤ 10)) = iR x 11 := by
  rw [← iR_in x (n := 11) (by omega), show (nI 11 - nI 1).toInt64 = 10 by decide +kernel]
/-- in how many hours -/
def hcA (f : Nat → Bool) (h0 : Nat) : Nat → Nat
  | 0 => 0
  | c + 1 => hcA f h0 c + (if f (h0 + c) then 1 else 0)
theorem hcA_le (f : Nat → Bool) (h0 : Nat) : ∀ c, hcA f h0 c ≤ c
  | 0 => Nat.le_refl _
  | c + 1 => by
    have := hcA_le f h0 c
    rw [hcA]
    split <;> omega
def hrB (w : Nat → Int32) (P k p a h : Nat) : Bool := decide (w (6 * p + h) = nI a) && !(decide (grp w P h a &&& k = 0))
theorem me_out : ∀ p, p < 6 → ∀ z, z < 64 → z.testBit p = false → z &&& (2 ^ p ^^^ 63) = z := by decide +kernel
def st2 (q : Nat × Nat) : Nat × Nat := if q.1 % 2 = 0 ∧ q.2 % 2 = 0 then (q.1 / 2, q.2 / 2) else q
def st5 (q : Nat × Nat) : Nat × Nat := if q.1 % 5 = 0 ∧ q.2 % 5 = 0 then (q.1 / 5, q.2 / 5) else q
def frI (q : Nat × Nat) : Nat → Nat × Nat
  | 0 => q
  | i + 1 => st5 (st2 (frI q i))
theorem st2_le (q : Nat × Nat) : (st2 q).1 ≤ q.1 ∧ (st2 q).2 ≤ q.2 := by
  unfold st2
  split
  · exact ⟨Nat.div_le_self _ _, Nat.div_le_self _ _⟩
  · exact ⟨Nat.le_refl _, Nat.le_refl _⟩
theorem st5_le (q : Nat × Nat) : (st5 q).1 ≤ q.1 ∧ (st5 q).2 ≤ q.2 := by
  unfold st5
  split
  · exact ⟨Nat.div_le_self _ _, Nat.div_le_self _ _⟩
  · exact ⟨Nat.le_refl _, Nat.le_refl _⟩
theorem frI_le (q : Nat × Nat) : ∀ i, (frI q i).1 ≤ q.1 ∧ (frI q i).2 ≤ q.2
  | 0 => ⟨Nat.le_refl _, Nat.le_refl _⟩
  | i + 1 => by
    have h1 := frI_le q i
    have h2 := st2_le (frI q i)
    have h3 := st5_le (st2 (frI q i))
    rw [frI]
    omega
theorem fr_eq : ∀ c, c < 7 → ∀ ms, ms < 11 → frI (10 ^ c - ms ^ c, 10 ^ c) c = ((10 ^ c - ms ^ c) / Nat.gcd (10 ^ c) (10 ^ c - ms ^ c), 10 ^ c / Nat.gcd (10 ^ c) (10 ^ c - ms ^ c)) := by decide +kernel
theorem fr_b : ∀ c, c < 7 → ∀ ms, ms < 11 → ms ^ c ≤ 10 ^ c ∧ 10 ^ c ≤ 1000000 ∧ 0 < 10 ^ c := by decide +kernel
theorem c_powerOf {O : gOm} {d : Nat} {m : gMem} {b c : Nat} (hc : c < 2 ^ 30) : Ca O d kX6_powerOf [.int (nI b), .int (nI c)] (some (.int (nI (b ^ c)))) m m := by
  have key : ∀ q i, i + q = c → Go O d kX6_powerOf (some (.int (nI (b ^ c)))) m 4 [.int (nI b), .int (nI c), .int (nI (b ^ i)), .int (nI i)] [] m := by
    intro q
    induction q with
    | zero =>
      intro i hi
      obtain rfl : i = c := by omega
      refine go_iload_n dX6_powerOf_4 rfl ?_
      refine go_iload_n dX6_powerOf_5 rfl ?_
      refine go_icmp_ge 19 dX6_powerOf_6 (by decide) (fun h6 => ?_) (fun h => absurd (nI_le (by omega) (by omega)) h)
      refine go_iload_n dX6_powerOf_19 rfl ?_
      exact go_iret dX6_powerOf_20 rfl rfl rfl
    | succ q ih =>
      intro i hi
      have h2 := ih (i + 1) (by omega)
      rw [show b ^ (i + 1) = b ^ i * b from rfl] at h2
      refine go_iload_n dX6_powerOf_4 rfl ?_
      refine go_iload_n dX6_powerOf_5 rfl ?_
      refine go_icmp_ge 19 dX6_powerOf_6 (by decide) (fun h => absurd h (nI_ge (by omega) (by omega))) (fun h6 => ?_)
      refine go_iload_n dX6_powerOf_9 rfl ?_
      refine go_iload_n dX6_powerOf_10 rfl ?_
      first | refine go_imul_n dX6_powerOf_11 ?_ | refine go_imul dX6_powerOf_11 rfl ?_
      refine go_istore_n (L' := [_, _, _, _]) dX6_powerOf_12 (by decide) rfl ?_
      refine go_iinc_n (L' := [_, _, _, _]) dX6_powerOf_13 rfl (by decide) rfl ?_
      refine go_goto 4 dX6_powerOf_16 (by decide) ?_
      exact h2
  have k0 := key c 0 (by omega)
  rw [Nat.pow_zero] at k0
  show Go O d kX6_powerOf _ m 0 [.int (nI b), .int (nI c), .null, .null] [] m
  refine go_iconst (nI 1) dX6_powerOf_0 (by decide +kernel) ?_
  refine go_istore_n (L' := [_, _, _, _]) dX6_powerOf_1 (by decide) rfl ?_
  refine go_iconst (nI 0) dX6_powerOf_2 (by decide +kernel) ?_
  refine go_istore_n (L' := [_, _, _, _]) dX6_powerOf_3 (by decide) rfl ?_
  exact k0
theorem c_fraction {O : gOm} {d : Nat} {m : gMem} {ms c : Nat} {up : Bool} (hm : ms < 11) (hc : c < 7) : Ca O (d + 1) kX6_fraction [.int (nI ms), .int (nI c), .int (bI up)] (some (.int (nI (if up then (frI (10 ^ c - ms ^ c, 10 ^ c) c).1 else (frI (10 ^ c - ms ^ c, 10 ^ c) c).2)))) m m := by
  obtain ⟨b1, b2, b3⟩ := fr_b c hc ms hm
  obtain ⟨Q, hQ⟩ : ∃ Q : Nat × Nat, (10 ^ c - ms ^ c, 10 ^ c) = Q := ⟨_, rfl⟩
  have hQ1 : Q.1 = 10 ^ c - ms ^ c := by rw [← hQ]
  have hQ2 : Q.2 = 10 ^ c := by rw [← hQ]
  rw [hQ]
  have key : ∀ q i, i + q = c → Go O (d + 1) kX6_fraction (some (.int (nI (if up then (frI Q c).1 else (frI Q c).2)))) m 19 [.int (nI ms), .int (nI c), .int (bI up), .int (nI (frI Q i).2), .int (nI (frI Q i).1), .int (nI i)] [] m := by
    intro q
    induction q with
    | zero =>
      intro i hi
      obtain rfl : i = c := by omega
      cases up with
      | true =>
        refine go_iload dX6_fraction_19 rfl ?_
        refine go_iload_n dX6_fraction_21 rfl ?_
        refine go_icmp_ge 77 dX6_fraction_22 (by decide) (fun h22 => ?_) (fun h => absurd (nI_le (by omega) (by omega)) h)
        refine go_iload_n dX6_fraction_77 rfl ?_
        refine go_if_eq 86 dX6_fraction_78 (by decide) (fun h => absurd h (bI_n0.mpr rfl)) (fun h78 => ?_)
        refine go_iload dX6_fraction_81 rfl ?_
        refine go_goto 87 dX6_fraction_83 (by decide) ?_
        exact go_iret dX6_fraction_87 rfl rfl rfl
      | false =>
        refine go_iload dX6_fraction_19 rfl ?_
        refine go_iload_n dX6_fraction_21 rfl ?_
        refine go_icmp_ge 77 dX6_fraction_22 (by decide) (fun h22 => ?_) (fun h => absurd (nI_le (by omega) (by omega)) h)
        refine go_iload_n dX6_fraction_77 rfl ?_
        refine go_if_eq 86 dX6_fraction_78 (by decide) (fun h78 => ?_) (fun h => absurd (bI_0.mpr rfl) h)
        refine go_iload_n dX6_fraction_86 rfl ?_
        exact go_iret dX6_fraction_87 rfl rfl rfl
    | succ q ih =>
      intro i hi
      have h2 := ih (i + 1) (by omega)
      have hf := frI_le Q i
      rw [frI] at h2
      generalize frI Q i = z at h2 hf ⊢
      obtain ⟨za, zb⟩ := z
      have s5 : ∀ y : Nat × Nat, y = st2 (za, zb) → y.1 ≤ za → y.2 ≤ zb → Go O (d + 1) kX6_fraction (some (.int (nI (if up then (frI Q c).1 else (frI Q c).2)))) m 48 [.int (nI ms), .int (nI c), .int (bI up), .int (nI y.2), .int (nI y.1), .int (nI i)] [] m := by
        intro y hy y1 y2
        rw [← hy] at h2
        obtain ⟨ya, yb⟩ := y
        dsimp only at y1 y2 hf
        by_cases e1 : ya % 5 = 0
        · by_cases e2 : yb % 5 = 0
          · rw [show st5 (ya, yb) = (ya / 5, yb / 5) from if_pos ⟨e1, e2⟩] at h2
            refine go_iload dX6_fraction_48 rfl ?_
            refine go_iconst (nI 5) dX6_fraction_50 (by decide +kernel) ?_
            refine go_irem dX6_fraction_51 (by decide +kernel) (pk_rem (by omega) (by omega) (by omega)) ?_
            refine go_if_ne 71 dX6_fraction_52 (by decide) (fun h => absurd h (fun q => q (by rw [e1]; rfl))) (fun h52 => ?_)
            refine go_iload_n dX6_fraction_55 rfl ?_
            refine go_iconst (nI 5) dX6_fraction_56 (by decide +kernel) ?_
            refine go_irem dX6_fraction_57 (by decide +kernel) (pk_rem (by omega) (by omega) (by omega)) ?_
            refine go_if_ne 71 dX6_fraction_58 (by decide) (fun h => absurd h (fun q => q (by rw [e2]; rfl))) (fun h58 => ?_)
            refine go_iload dX6_fraction_61 rfl ?_
            refine go_iconst (nI 5) dX6_fraction_63 (by decide +kernel) ?_
            refine go_idiv dX6_fraction_64 (by decide +kernel) (pk_div (by omega) (by omega) (by omega)) ?_
            refine go_istore (L' := [_, _, _, _, _, _]) dX6_fraction_65 (by decide) rfl ?_
            refine go_iload_n dX6_fraction_67 rfl ?_
            refine go_iconst (nI 5) dX6_fraction_68 (by decide +kernel) ?_
            refine go_idiv dX6_fraction_69 (by decide +kernel) (pk_div (by omega) (by omega) (by omega)) ?_
            refine go_istore_n (L' := [_, _, _, _, _, _]) dX6_fraction_70 (by decide) rfl ?_
            refine go_iinc_n (L' := [_, _, _, _, _, _]) dX6_fraction_71 rfl (by decide) rfl ?_
            refine go_goto 19 dX6_fraction_74 (by decide) ?_
            exact h2
          · rw [show st5 (ya, yb) = (ya, yb) from if_neg (fun q => e2 q.2)] at h2
            refine go_iload dX6_fraction_48 rfl ?_
            refine go_iconst (nI 5) dX6_fraction_50 (by decide +kernel) ?_
            refine go_irem dX6_fraction_51 (by decide +kernel) (pk_rem (by omega) (by omega) (by omega)) ?_
            refine go_if_ne 71 dX6_fraction_52 (by decide) (fun h => absurd h (fun q => q (by rw [e1]; rfl))) (fun h52 => ?_)
            refine go_iload_n dX6_fraction_55 rfl ?_
            refine go_iconst (nI 5) dX6_fraction_56 (by decide +kernel) ?_
            refine go_irem dX6_fraction_57 (by decide +kernel) (pk_rem (by omega) (by omega) (by omega)) ?_
            refine go_if_ne 71 dX6_fraction_58 (by decide) (fun h58 => ?_) (fun h => absurd h (fun q => e2 ((nI_eq (b := 0) (by omega) (by omega)).mp q)))
            refine go_iinc_n (L' := [_, _, _, _, _, _]) dX6_fraction_71 rfl (by decide) rfl ?_
            refine go_goto 19 dX6_fraction_74 (by decide) ?_
            exact h2
        · rw [show st5 (ya, yb) = (ya, yb) from if_neg (fun q => e1 q.1)] at h2
          refine go_iload dX6_fraction_48 rfl ?_
          refine go_iconst (nI 5) dX6_fraction_50 (by decide +kernel) ?_
          refine go_irem dX6_fraction_51 (by decide +kernel) (pk_rem (by omega) (by omega) (by omega)) ?_
          refine go_if_ne 71 dX6_fraction_52 (by decide) (fun h52 => ?_) (fun h => absurd h (fun q => e1 ((nI_eq (b := 0) (by omega) (by omega)).mp q)))
          refine go_iinc_n (L' := [_, _, _, _, _, _]) dX6_fraction_71 rfl (by decide) rfl ?_
          refine go_goto 19 dX6_fraction_74 (by decide) ?_
          exact h2
      dsimp only at hf ⊢
      by_cases e1 : za % 2 = 0
      · by_cases e2 : zb % 2 = 0
        · have g1 := s5 (za / 2, zb / 2) (if_pos ⟨e1, e2⟩ : st2 (za, zb) = _).symm (Nat.div_le_self _ _) (Nat.div_le_self _ _)
          refine go_iload dX6_fraction_19 rfl ?_
          refine go_iload_n dX6_fraction_21 rfl ?_
          refine go_icmp_ge 77 dX6_fraction_22 (by decide) (fun h => absurd h (nI_ge (by omega) (by omega))) (fun h22 => ?_)
          refine go_iload dX6_fraction_25 rfl ?_
          refine go_iconst (nI 2) dX6_fraction_27 (by decide +kernel) ?_
          refine go_irem dX6_fraction_28 (by decide +kernel) (pk_rem (by omega) (by omega) (by omega)) ?_
          refine go_if_ne 48 dX6_fraction_29 (by decide) (fun h => absurd h (fun q => q (by rw [e1]; rfl))) (fun h29 => ?_)
          refine go_iload_n dX6_fraction_32 rfl ?_
          refine go_iconst (nI 2) dX6_fraction_33 (by decide +kernel) ?_
          refine go_irem dX6_fraction_34 (by decide +kernel) (pk_rem (by omega) (by omega) (by omega)) ?_
          refine go_if_ne 48 dX6_fraction_35 (by decide) (fun h => absurd h (fun q => q (by rw [e2]; rfl))) (fun h35 => ?_)
          refine go_iload dX6_fraction_38 rfl ?_
          refine go_iconst (nI 2) dX6_fraction_40 (by decide +kernel) ?_
          refine go_idiv dX6_fraction_41 (by decide +kernel) (pk_div (by omega) (by omega) (by omega)) ?_
          refine go_istore (L' := [_, _, _, _, _, _]) dX6_fraction_42 (by decide) rfl ?_
          refine go_iload_n dX6_fraction_44 rfl ?_
          refine go_iconst (nI 2) dX6_fraction_45 (by decide +kernel) ?_
          refine go_idiv dX6_fraction_46 (by decide +kernel) (pk_div (by omega) (by omega) (by omega)) ?_
          refine go_istore_n (L' := [_, _, _, _, _, _]) dX6_fraction_47 (by decide) rfl ?_
          exact g1
        · have g1 := s5 (za, zb) (if_neg (fun q => e2 q.2) : st2 (za, zb) = _).symm (Nat.le_refl _) (Nat.le_refl _)
          refine go_iload dX6_fraction_19 rfl ?_
          refine go_iload_n dX6_fraction_21 rfl ?_
          refine go_icmp_ge 77 dX6_fraction_22 (by decide) (fun h => absurd h (nI_ge (by omega) (by omega))) (fun h22 => ?_)
          refine go_iload dX6_fraction_25 rfl ?_
          refine go_iconst (nI 2) dX6_fraction_27 (by decide +kernel) ?_
          refine go_irem dX6_fraction_28 (by decide +kernel) (pk_rem (by omega) (by omega) (by omega)) ?_
          refine go_if_ne 48 dX6_fraction_29 (by decide) (fun h => absurd h (fun q => q (by rw [e1]; rfl))) (fun h29 => ?_)
          refine go_iload_n dX6_fraction_32 rfl ?_
          refine go_iconst (nI 2) dX6_fraction_33 (by decide +kernel) ?_
          refine go_irem dX6_fraction_34 (by decide +kernel) (pk_rem (by omega) (by omega) (by omega)) ?_
          refine go_if_ne 48 dX6_fraction_35 (by decide) (fun h35 => ?_) (fun h => absurd h (fun q => e2 ((nI_eq (b := 0) (by omega) (by omega)).mp q)))
          exact g1
      · have g1 := s5 (za, zb) (if_neg (fun q => e1 q.1) : st2 (za, zb) = _).symm (Nat.le_refl _) (Nat.le_refl _)
        refine go_iload dX6_fraction_19 rfl ?_
        refine go_iload_n dX6_fraction_21 rfl ?_
        refine go_icmp_ge 77 dX6_fraction_22 (by decide) (fun h => absurd h (nI_ge (by omega) (by omega))) (fun h22 => ?_)
        refine go_iload dX6_fraction_25 rfl ?_
        refine go_iconst (nI 2) dX6_fraction_27 (by decide +kernel) ?_
        refine go_irem dX6_fraction_28 (by decide +kernel) (pk_rem (by omega) (by omega) (by omega)) ?_
        refine go_if_ne 48 dX6_fraction_29 (by decide) (fun h29 => ?_) (fun h => absurd h (fun q => e1 ((nI_eq (b := 0) (by omega) (by omega)).mp q)))
        exact g1
  have k0 := key c 0 (by omega)
  rw [frI, hQ1, hQ2] at k0
  show Go O (d + 1) kX6_fraction _ m 0 [.int (nI ms), .int (nI c), .int (bI up), .null, .null, .null] [] m
  refine go_bipush (nI 10) dX6_fraction_0 (by decide +kernel) ?_
  refine go_iload_n dX6_fraction_2 rfl ?_
  refine go_callS1 (K' := kX6_powerOf) [_, _] dX6_fraction_3 mX6_179 lX6_powerOf rfl rfl (Nat.le_of_ble_eq_true rfl) (Nat.le_of_ble_eq_true rfl) (c_powerOf (by omega)) ?_
  refine go_istore_n (L' := [_, _, _, _, _, _]) dX6_fraction_6 (by decide) rfl ?_
  refine go_iload_n dX6_fraction_7 rfl ?_
  refine go_iload_n dX6_fraction_8 rfl ?_
  refine go_iload_n dX6_fraction_9 rfl ?_
  refine go_callS1 (K' := kX6_powerOf) [_, _] dX6_fraction_10 mX6_179 lX6_powerOf rfl rfl (Nat.le_of_ble_eq_true rfl) (Nat.le_of_ble_eq_true rfl) (c_powerOf (by omega)) ?_
  refine go_isub dX6_fraction_13 (pk_sub b1) ?_
  refine go_istore (L' := [_, _, _, _, _, _]) dX6_fraction_14 (by decide) rfl ?_
  refine go_iconst (nI 0) dX6_fraction_16 (by decide +kernel) ?_
  refine go_istore (L' := [_, _, _, _, _, _]) dX6_fraction_17 (by decide) rfl ?_
  exact k0
theorem c_hearing_29 {O : gOm} {d : Nat} {m : gMem} {w : Nat → Int32} {hr P k n p a : Nat} (hT : m.2 0 = 29) (hP6 : P ≤ 6) (hpP : p < P) (hn : n < 3) (ha : a < 3) (hk : k < 64) (hkp : k.testBit p = false) (hr6 : hr < 6) (hG : ∀ h a, h < 6 → a < 3 → m.1 31 (h * 3 + a) = nI (grp w P h a)) (hpl : ∀ p h, p < P → h < 6 → m.1 30 (p * 6 + h) = w (6 * p + h)) (s4 : m.1 3 4 = nI hr) (sk : m.1 4 n = nI k) : Ca O (d + 1) kX6_hoursOfHearing [.ref 0, .int (nI n), .int (nI p), .int (nI a)] (some (.int (nI (hcA (hrB w P k p a) hr (6 - hr))))) m m := by
  have e2 : 2 ^ p ≤ 32 := Nat.pow_le_pow_right (n := 2) (by omega) (show p ≤ 5 by omega)
  have key : ∀ q c, hr + c + q = 6 → ∀ u, Go O (d + 1) kX6_hoursOfHearing (some (.int (nI (hcA (hrB w P k p a) hr (6 - hr))))) m 12 [.ref 0, .int (nI n), .int (nI p), .int (nI a), .int (nI (hcA (hrB w P k p a) hr c)), .int (nI (hr + c)), u] [] m := by
    intro q
    induction q with
    | zero =>
      intro c hc u
      obtain rfl : c = 6 - hr := by omega
      refine go_iload dX6_hoursOfHearing_12 rfl ?_
      refine go_bipush (nI 6) dX6_hoursOfHearing_14 (by decide +kernel) ?_
      refine go_icmp_ge 75 dX6_hoursOfHearing_16 (by decide) (fun h16 => ?_) (fun h => absurd (nI_le (by omega) (by omega)) h)
      refine go_iload dX6_hoursOfHearing_75 rfl ?_
      exact go_iret dX6_hoursOfHearing_77 rfl rfl rfl
    | succ q ih =>
      intro c hc u
      have hi := ih (c + 1) (by omega)
      rw [hcA] at hi
      have hg := grp_64 w (hr + c) a hP6
      have hz : grp w P (hr + c) a &&& k < 64 := Nat.and_lt_two_pow (n := 6) _ hk
      have hzb : (grp w P (hr + c) a &&& k).testBit p = false := by rw [Nat.testBit_and, hkp, Bool.and_false]
      have em := me_out p (by omega) _ hz hzb
      have v44 : nI (grp w P (hr + c) a &&& k) &&& (nI (2 ^ p) ^^^ (-1)) = nI (grp w P (hr + c) a &&& k) := by rw [nk_eq _ hz _ (by omega), em]
      by_cases h1 : w (6 * p + (hr + c)) = nI a
      · by_cases h2 : grp w P (hr + c) a &&& k = 0
        · rw [show hrB w P k p a (hr + c) = false by simp [hrB, h2]] at hi
          refine go_iload dX6_hoursOfHearing_12 rfl ?_
          refine go_bipush (nI 6) dX6_hoursOfHearing_14 (by decide +kernel) ?_
          refine go_icmp_ge 75 dX6_hoursOfHearing_16 (by decide) (fun h => absurd h (nI_ge (by omega) (by omega))) (fun h16 => ?_)
          refine go_aload_n dX6_hoursOfHearing_19 rfl ?_
          refine go_getm dX6_hoursOfHearing_20 fX6_47 rfl (by decide) (by decide) (by decide) rfl hT ?_
          refine go_iload dX6_hoursOfHearing_23 rfl ?_
          refine go_iload_n dX6_hoursOfHearing_25 rfl ?_
          refine go_callV1 (K' := kX1_group) [_, _] dX6_hoursOfHearing_26 mX6_265 lX1_group rfl (by decide) rfl (by decide) rfl rfl (Nat.le_of_ble_eq_true rfl) (Nat.le_of_ble_eq_true rfl) (c_group_29 (by omega) ha (hG _ _ (by omega) ha)) ?_
          refine go_aload_n dX6_hoursOfHearing_29 rfl ?_
          refine go_getc dX6_hoursOfHearing_30 fX6_19 rfl (by decide) (by decide) (by decide) rfl ?_
          refine go_getc dX6_hoursOfHearing_33 fX6_130 rfl (by decide) (by decide) (by decide) rfl ?_
          refine go_iload_n dX6_hoursOfHearing_36 rfl ?_
          refine go_iald dX6_hoursOfHearing_37 rfl (by decide) rfl (by omega) (by decide) sk ?_
          refine go_iand dX6_hoursOfHearing_38 (nb_and _ _) ?_
          refine go_iconst (nI 1) dX6_hoursOfHearing_39 (by decide +kernel) ?_
          refine go_iload_n dX6_hoursOfHearing_40 rfl ?_
          refine go_ishl dX6_hoursOfHearing_41 (nb_one (by omega)) ?_
          refine go_iconst (-1) dX6_hoursOfHearing_42 (by decide +kernel) ?_
          refine go_ixor dX6_hoursOfHearing_43 rfl ?_
          refine go_iand dX6_hoursOfHearing_44 v44 ?_
          refine go_istore (L' := [_, _, _, _, _, _, _]) dX6_hoursOfHearing_45 (by decide) rfl ?_
          refine go_aload_n dX6_hoursOfHearing_47 rfl ?_
          refine go_getm dX6_hoursOfHearing_48 fX6_47 rfl (by decide) (by decide) (by decide) rfl hT ?_
          refine go_iload_n dX6_hoursOfHearing_51 rfl ?_
          refine go_iload dX6_hoursOfHearing_52 rfl ?_
          refine go_callV1 (K' := kX1_placeOf) [_, _] dX6_hoursOfHearing_54 mX6_112 lX1_placeOf rfl (by decide) rfl (by decide) rfl rfl (Nat.le_of_ble_eq_true rfl) (Nat.le_of_ble_eq_true rfl) (c_placeOf_29 (by omega) (by omega) (hpl _ _ hpP (by omega))) ?_
          refine go_iload_n dX6_hoursOfHearing_57 rfl ?_
          refine go_icmp_ne 69 dX6_hoursOfHearing_58 (by decide) (fun h => absurd h (fun q => q h1)) (fun h58 => ?_)
          refine go_iload dX6_hoursOfHearing_61 rfl ?_
          refine go_if_eq 69 dX6_hoursOfHearing_63 (by decide) (fun h63 => ?_) (fun h => absurd (by rw [h2]; rfl) h)
          refine go_iinc_n (L' := [_, _, _, _, _, _, _]) dX6_hoursOfHearing_69 rfl (by decide) rfl ?_
          refine go_goto 12 dX6_hoursOfHearing_72 (by decide) ?_
          exact hi _
        · rw [show hrB w P k p a (hr + c) = true by simp [hrB, h1, h2]] at hi
          refine go_iload dX6_hoursOfHearing_12 rfl ?_
          refine go_bipush (nI 6) dX6_hoursOfHearing_14 (by decide +kernel) ?_
          refine go_icmp_ge 75 dX6_hoursOfHearing_16 (by decide) (fun h => absurd h (nI_ge (by omega) (by omega))) (fun h16 => ?_)
          refine go_aload_n dX6_hoursOfHearing_19 rfl ?_
          refine go_getm dX6_hoursOfHearing_20 fX6_47 rfl (by decide) (by decide) (by decide) rfl hT ?_
          refine go_iload dX6_hoursOfHearing_23 rfl ?_
          refine go_iload_n dX6_hoursOfHearing_25 rfl ?_
          refine go_callV1 (K' := kX1_group) [_, _] dX6_hoursOfHearing_26 mX6_265 lX1_group rfl (by decide) rfl (by decide) rfl rfl (Nat.le_of_ble_eq_true rfl) (Nat.le_of_ble_eq_true rfl) (c_group_29 (by omega) ha (hG _ _ (by omega) ha)) ?_
          refine go_aload_n dX6_hoursOfHearing_29 rfl ?_
          refine go_getc dX6_hoursOfHearing_30 fX6_19 rfl (by decide) (by decide) (by decide) rfl ?_
          refine go_getc dX6_hoursOfHearing_33 fX6_130 rfl (by decide) (by decide) (by decide) rfl ?_
          refine go_iload_n dX6_hoursOfHearing_36 rfl ?_
          refine go_iald dX6_hoursOfHearing_37 rfl (by decide) rfl (by omega) (by decide) sk ?_
          refine go_iand dX6_hoursOfHearing_38 (nb_and _ _) ?_
          refine go_iconst (nI 1) dX6_hoursOfHearing_39 (by decide +kernel) ?_
          refine go_iload_n dX6_hoursOfHearing_40 rfl ?_
          refine go_ishl dX6_hoursOfHearing_41 (nb_one (by omega)) ?_
          refine go_iconst (-1) dX6_hoursOfHearing_42 (by decide +kernel) ?_
          refine go_ixor dX6_hoursOfHearing_43 rfl ?_
          refine go_iand dX6_hoursOfHearing_44 v44 ?_
          refine go_istore (L' := [_, _, _, _, _, _, _]) dX6_hoursOfHearing_45 (by decide) rfl ?_
          refine go_aload_n dX6_hoursOfHearing_47 rfl ?_
          refine go_getm dX6_hoursOfHearing_48 fX6_47 rfl (by decide) (by decide) (by decide) rfl hT ?_
          refine go_iload_n dX6_hoursOfHearing_51 rfl ?_
          refine go_iload dX6_hoursOfHearing_52 rfl ?_
          refine go_callV1 (K' := kX1_placeOf) [_, _] dX6_hoursOfHearing_54 mX6_112 lX1_placeOf rfl (by decide) rfl (by decide) rfl rfl (Nat.le_of_ble_eq_true rfl) (Nat.le_of_ble_eq_true rfl) (c_placeOf_29 (by omega) (by omega) (hpl _ _ hpP (by omega))) ?_
          refine go_iload_n dX6_hoursOfHearing_57 rfl ?_
          refine go_icmp_ne 69 dX6_hoursOfHearing_58 (by decide) (fun h => absurd h (fun q => q h1)) (fun h58 => ?_)
          refine go_iload dX6_hoursOfHearing_61 rfl ?_
          refine go_if_eq 69 dX6_hoursOfHearing_63 (by decide) (fun h => absurd h (fun q => h2 ((nI_eq (b := 0) (by omega) (by omega)).mp q))) (fun h63 => ?_)
          refine go_iinc_n (L' := [_, _, _, _, _, _, _]) dX6_hoursOfHearing_66 rfl (by decide) rfl ?_
          refine go_iinc_n (L' := [_, _, _, _, _, _, _]) dX6_hoursOfHearing_69 rfl (by decide) rfl ?_
          refine go_goto 12 dX6_hoursOfHearing_72 (by decide) ?_
          exact hi _
      · rw [show hrB w P k p a (hr + c) = false by simp [hrB, h1]] at hi
        refine go_iload dX6_hoursOfHearing_12 rfl ?_
        refine go_bipush (nI 6) dX6_hoursOfHearing_14 (by decide +kernel) ?_
        refine go_icmp_ge 75 dX6_hoursOfHearing_16 (by decide) (fun h => absurd h (nI_ge (by omega) (by omega))) (fun h16 => ?_)
        refine go_aload_n dX6_hoursOfHearing_19 rfl ?_
        refine go_getm dX6_hoursOfHearing_20 fX6_47 rfl (by decide) (by decide) (by decide) rfl hT ?_
        refine go_iload dX6_hoursOfHearing_23 rfl ?_
        refine go_iload_n dX6_hoursOfHearing_25 rfl ?_
        refine go_callV1 (K' := kX1_group) [_, _] dX6_hoursOfHearing_26 mX6_265 lX1_group rfl (by decide) rfl (by decide) rfl rfl (Nat.le_of_ble_eq_true rfl) (Nat.le_of_ble_eq_true rfl) (c_group_29 (by omega) ha (hG _ _ (by omega) ha)) ?_
        refine go_aload_n dX6_hoursOfHearing_29 rfl ?_
        refine go_getc dX6_hoursOfHearing_30 fX6_19 rfl (by decide) (by decide) (by decide) rfl ?_
        refine go_getc dX6_hoursOfHearing_33 fX6_130 rfl (by decide) (by decide) (by decide) rfl ?_
        refine go_iload_n dX6_hoursOfHearing_36 rfl ?_
        refine go_iald dX6_hoursOfHearing_37 rfl (by decide) rfl (by omega) (by decide) sk ?_
        refine go_iand dX6_hoursOfHearing_38 (nb_and _ _) ?_
        refine go_iconst (nI 1) dX6_hoursOfHearing_39 (by decide +kernel) ?_
        refine go_iload_n dX6_hoursOfHearing_40 rfl ?_
        refine go_ishl dX6_hoursOfHearing_41 (nb_one (by omega)) ?_
        refine go_iconst (-1) dX6_hoursOfHearing_42 (by decide +kernel) ?_
        refine go_ixor dX6_hoursOfHearing_43 rfl ?_
        refine go_iand dX6_hoursOfHearing_44 v44 ?_
        refine go_istore (L' := [_, _, _, _, _, _, _]) dX6_hoursOfHearing_45 (by decide) rfl ?_
        refine go_aload_n dX6_hoursOfHearing_47 rfl ?_
        refine go_getm dX6_hoursOfHearing_48 fX6_47 rfl (by decide) (by decide) (by decide) rfl hT ?_
        refine go_iload_n dX6_hoursOfHearing_51 rfl ?_
        refine go_iload dX6_hoursOfHearing_52 rfl ?_
        refine go_callV1 (K' := kX1_placeOf) [_, _] dX6_hoursOfHearing_54 mX6_112 lX1_placeOf rfl (by decide) rfl (by decide) rfl rfl (Nat.le_of_ble_eq_true rfl) (Nat.le_of_ble_eq_true rfl) (c_placeOf_29 (by omega) (by omega) (hpl _ _ hpP (by omega))) ?_
        refine go_iload_n dX6_hoursOfHearing_57 rfl ?_
        refine go_icmp_ne 69 dX6_hoursOfHearing_58 (by decide) (fun h58 => ?_) (fun h => absurd h (h1))
        refine go_iinc_n (L' := [_, _, _, _, _, _, _]) dX6_hoursOfHearing_69 rfl (by decide) rfl ?_
        refine go_goto 12 dX6_hoursOfHearing_72 (by decide) ?_
        exact hi _
  have k0 := key (6 - hr) 0 (by omega)
  show Go O (d + 1) kX6_hoursOfHearing _ m 0 [.ref 0, .int (nI n), .int (nI p), .int (nI a), .null, .null, .null] [] m
  refine go_iconst (nI 0) dX6_hoursOfHearing_0 (by decide +kernel) ?_
  refine go_istore (L' := [_, _, _, _, _, _, _]) dX6_hoursOfHearing_1 (by decide) rfl ?_
  refine go_aload_n dX6_hoursOfHearing_3 rfl ?_
  refine go_getc dX6_hoursOfHearing_4 fX6_19 rfl (by decide) (by decide) (by decide) rfl ?_
  refine go_geti dX6_hoursOfHearing_7 fX6_94 rfl (by decide) (by decide) (by decide) rfl s4 ?_
  refine go_istore (L' := [_, _, _, _, _, _, _]) dX6_hoursOfHearing_10 (by decide) rfl ?_
  exact k0 _
theorem c_hearing_35 {O : gOm} {d : Nat} {m : gMem} {w : Nat → Int32} {hr P k n p a : Nat} (hT : m.2 0 = 35) (hP6 : P ≤ 6) (hpP : p < P) (hn : n < 3) (ha : a < 3) (hk : k < 64) (hkp : k.testBit p = false) (hr6 : hr < 6) (hG : ∀ h a, h < 6 → a < 3 → m.1 37 (h * 3 + a) = nI (grp w P h a)) (hpl : ∀ p h, p < P → h < 6 → m.1 36 (p * 6 + h) = w (6 * p + h)) (s4 : m.1 3 4 = nI hr) (sk : m.1 4 n = nI k) : Ca O (d + 1) kX6_hoursOfHearing [.ref 0, .int (nI n), .int (nI p), .int (nI a)] (some (.int (nI (hcA (hrB w P k p a) hr (6 - hr))))) m m := by
  have e2 : 2 ^ p ≤ 32 := Nat.pow_le_pow_right (n := 2) (by omega) (show p ≤ 5 by omega)
  have key : ∀ q c, hr + c + q = 6 → ∀ u, Go O (d + 1) kX6_hoursOfHearing (some (.int (nI (hcA (hrB w P k p a) hr (6 - hr))))) m 12 [.ref 0, .int (nI n), .int (nI p), .int (nI a), .int (nI (hcA (hrB w P k p a) hr c)), .int (nI (hr + c)), u] [] m := by
    intro q
    induction q with
    | zero =>
      intro c hc u
      obtain rfl : c = 6 - hr := by omega
      refine go_iload dX6_hoursOfHearing_12 rfl ?_
      refine go_bipush (nI 6) dX6_hoursOfHearing_14 (by decide +kernel) ?_
      refine go_icmp_ge 75 dX6_hoursOfHearing_16 (by decide) (fun h16 => ?_) (fun h => absurd (nI_le (by omega) (by omega)) h)
      refine go_iload dX6_hoursOfHearing_75 rfl ?_
      exact go_iret dX6_hoursOfHearing_77 rfl rfl rfl
    | succ q ih =>
      intro c hc u
      have hi := ih (c + 1) (by omega)
      rw [hcA] at hi
      have hg := grp_64 w (hr + c) a hP6
      have hz : grp w P (hr + c) a &&& k < 64 := Nat.and_lt_two_pow (n := 6) _ hk
      have hzb : (grp w P (hr + c) a &&& k).testBit p = false := by rw [Nat.testBit_and, hkp, Bool.and_false]
      have em := me_out p (by omega) _ hz hzb
      have v44 : nI (grp w P (hr + c) a &&& k) &&& (nI (2 ^ p) ^^^ (-1)) = nI (grp w P (hr + c) a &&& k) := by rw [nk_eq _ hz _ (by omega), em]
      by_cases h1 : w (6 * p + (hr + c)) = nI a
      · by_cases h2 : grp w P (hr + c) a &&& k = 0
        · rw [show hrB w P k p a (hr + c) = false by simp [hrB, h2]] at hi
          refine go_iload dX6_hoursOfHearing_12 rfl ?_
          refine go_bipush (nI 6) dX6_hoursOfHearing_14 (by decide +kernel) ?_
          refine go_icmp_ge 75 dX6_hoursOfHearing_16 (by decide) (fun h => absurd h (nI_ge (by omega) (by omega))) (fun h16 => ?_)
          refine go_aload_n dX6_hoursOfHearing_19 rfl ?_
          refine go_getm dX6_hoursOfHearing_20 fX6_47 rfl (by decide) (by decide) (by decide) rfl hT ?_
          refine go_iload dX6_hoursOfHearing_23 rfl ?_
          refine go_iload_n dX6_hoursOfHearing_25 rfl ?_
          refine go_callV1 (K' := kX1_group) [_, _] dX6_hoursOfHearing_26 mX6_265 lX1_group rfl (by decide) rfl (by decide) rfl rfl (Nat.le_of_ble_eq_true rfl) (Nat.le_of_ble_eq_true rfl) (c_group_35 (by omega) ha (hG _ _ (by omega) ha)) ?_
          refine go_aload_n dX6_hoursOfHearing_29 rfl ?_
          refine go_getc dX6_hoursOfHearing_30 fX6_19 rfl (by decide) (by decide) (by decide) rfl ?_
          refine go_getc dX6_hoursOfHearing_33 fX6_130 rfl (by decide) (by decide) (by decide) rfl ?_
          refine go_iload_n dX6_hoursOfHearing_36 rfl ?_
          refine go_iald dX6_hoursOfHearing_37 rfl (by decide) rfl (by omega) (by decide) sk ?_
          refine go_iand dX6_hoursOfHearing_38 (nb_and _ _) ?_
          refine go_iconst (nI 1) dX6_hoursOfHearing_39 (by decide +kernel) ?_
          refine go_iload_n dX6_hoursOfHearing_40 rfl ?_
          refine go_ishl dX6_hoursOfHearing_41 (nb_one (by omega)) ?_
          refine go_iconst (-1) dX6_hoursOfHearing_42 (by decide +kernel) ?_
          refine go_ixor dX6_hoursOfHearing_43 rfl ?_
          refine go_iand dX6_hoursOfHearing_44 v44 ?_
          refine go_istore (L' := [_, _, _, _, _, _, _]) dX6_hoursOfHearing_45 (by decide) rfl ?_
          refine go_aload_n dX6_hoursOfHearing_47 rfl ?_
          refine go_getm dX6_hoursOfHearing_48 fX6_47 rfl (by decide) (by decide) (by decide) rfl hT ?_
          refine go_iload_n dX6_hoursOfHearing_51 rfl ?_
          refine go_iload dX6_hoursOfHearing_52 rfl ?_
          refine go_callV1 (K' := kX1_placeOf) [_, _] dX6_hoursOfHearing_54 mX6_112 lX1_placeOf rfl (by decide) rfl (by decide) rfl rfl (Nat.le_of_ble_eq_true rfl) (Nat.le_of_ble_eq_true rfl) (c_placeOf_35 (by omega) (by omega) (hpl _ _ hpP (by omega))) ?_
          refine go_iload_n dX6_hoursOfHearing_57 rfl ?_
          refine go_icmp_ne 69 dX6_hoursOfHearing_58 (by decide) (fun h => absurd h (fun q => q h1)) (fun h58 => ?_)
          refine go_iload dX6_hoursOfHearing_61 rfl ?_
          refine go_if_eq 69 dX6_hoursOfHearing_63 (by decide) (fun h63 => ?_) (fun h => absurd (by rw [h2]; rfl) h)
          refine go_iinc_n (L' := [_, _, _, _, _, _, _]) dX6_hoursOfHearing_69 rfl (by decide) rfl ?_
          refine go_goto 12 dX6_hoursOfHearing_72 (by decide) ?_
          exact hi _
        · rw [show hrB w P k p a (hr + c) = true by simp [hrB, h1, h2]] at hi
          refine go_iload dX6_hoursOfHearing_12 rfl ?_
          refine go_bipush (nI 6) dX6_hoursOfHearing_14 (by decide +kernel) ?_
          refine go_icmp_ge 75 dX6_hoursOfHearing_16 (by decide) (fun h => absurd h (nI_ge (by omega) (by omega))) (fun h16 => ?_)
          refine go_aload_n dX6_hoursOfHearing_19 rfl ?_
          refine go_getm dX6_hoursOfHearing_20 fX6_47 rfl (by decide) (by decide) (by decide) rfl hT ?_
          refine go_iload dX6_hoursOfHearing_23 rfl ?_
          refine go_iload_n dX6_hoursOfHearing_25 rfl ?_
          refine go_callV1 (K' := kX1_group) [_, _] dX6_hoursOfHearing_26 mX6_265 lX1_group rfl (by decide) rfl (by decide) rfl rfl (Nat.le_of_ble_eq_true rfl) (Nat.le_of_ble_eq_true rfl) (c_group_35 (by omega) ha (hG _ _ (by omega) ha)) ?_
          refine go_aload_n dX6_hoursOfHearing_29 rfl ?_
          refine go_getc dX6_hoursOfHearing_30 fX6_19 rfl (by decide) (by decide) (by decide) rfl ?_
          refine go_getc dX6_hoursOfHearing_33 fX6_130 rfl (by decide) (by decide) (by decide) rfl ?_
          refine go_iload_n dX6_hoursOfHearing_36 rfl ?_
          refine go_iald dX6_hoursOfHearing_37 rfl (by decide) rfl (by omega) (by decide) sk ?_
          refine go_iand dX6_hoursOfHearing_38 (nb_and _ _) ?_
          refine go_iconst (nI 1) dX6_hoursOfHearing_39 (by decide +kernel) ?_
          refine go_iload_n dX6_hoursOfHearing_40 rfl ?_
          refine go_ishl dX6_hoursOfHearing_41 (nb_one (by omega)) ?_
          refine go_iconst (-1) dX6_hoursOfHearing_42 (by decide +kernel) ?_
          refine go_ixor dX6_hoursOfHearing_43 rfl ?_
          refine go_iand dX6_hoursOfHearing_44 v44 ?_
          refine go_istore (L' := [_, _, _, _, _, _, _]) dX6_hoursOfHearing_45 (by decide) rfl ?_
          refine go_aload_n dX6_hoursOfHearing_47 rfl ?_
          refine go_getm dX6_hoursOfHearing_48 fX6_47 rfl (by decide) (by decide) (by decide) rfl hT ?_
          refine go_iload_n dX6_hoursOfHearing_51 rfl ?_
          refine go_iload dX6_hoursOfHearing_52 rfl ?_
          refine go_callV1 (K' := kX1_placeOf) [_, _] dX6_hoursOfHearing_54 mX6_112 lX1_placeOf rfl (by decide) rfl (by decide) rfl rfl (Nat.le_of_ble_eq_true rfl) (Nat.le_of_ble_eq_true rfl) (c_placeOf_35 (by omega) (by omega) (hpl _ _ hpP (by omega))) ?_
          refine go_iload_n dX6_hoursOfHearing_57 rfl ?_
          refine go_icmp_ne 69 dX6_hoursOfHearing_58 (by decide) (fun h => absurd h (fun q => q h1)) (fun h58 => ?_)
          refine go_iload dX6_hoursOfHearing_61 rfl ?_
          refine go_if_eq 69 dX6_hoursOfHearing_63 (by decide) (fun h => absurd h (fun q => h2 ((nI_eq (b := 0) (by omega) (by omega)).mp q))) (fun h63 => ?_)
          refine go_iinc_n (L' := [_, _, _, _, _, _, _]) dX6_hoursOfHearing_66 rfl (by decide) rfl ?_
          refine go_iinc_n (L' := [_, _, _, _, _, _, _]) dX6_hoursOfHearing_69 rfl (by decide) rfl ?_
          refine go_goto 12 dX6_hoursOfHearing_72 (by decide) ?_
          exact hi _
      · rw [show hrB w P k p a (hr + c) = false by simp [hrB, h1]] at hi
        refine go_iload dX6_hoursOfHearing_12 rfl ?_
        refine go_bipush (nI 6) dX6_hoursOfHearing_14 (by decide +kernel) ?_
        refine go_icmp_ge 75 dX6_hoursOfHearing_16 (by decide) (fun h => absurd h (nI_ge (by omega) (by omega))) (fun h16 => ?_)
        refine go_aload_n dX6_hoursOfHearing_19 rfl ?_
        refine go_getm dX6_hoursOfHearing_20 fX6_47 rfl (by decide) (by decide) (by decide) rfl hT ?_
        refine go_iload dX6_hoursOfHearing_23 rfl ?_
        refine go_iload_n dX6_hoursOfHearing_25 rfl ?_
        refine go_callV1 (K' := kX1_group) [_, _] dX6_hoursOfHearing_26 mX6_265 lX1_group rfl (by decide) rfl (by decide) rfl rfl (Nat.le_of_ble_eq_true rfl) (Nat.le_of_ble_eq_true rfl) (c_group_35 (by omega) ha (hG _ _ (by omega) ha)) ?_
        refine go_aload_n dX6_hoursOfHearing_29 rfl ?_
        refine go_getc dX6_hoursOfHearing_30 fX6_19 rfl (by decide) (by decide) (by decide) rfl ?_
        refine go_getc dX6_hoursOfHearing_33 fX6_130 rfl (by decide) (by decide) (by decide) rfl ?_
        refine go_iload_n dX6_hoursOfHearing_36 rfl ?_
        refine go_iald dX6_hoursOfHearing_37 rfl (by decide) rfl (by omega) (by decide) sk ?_
        refine go_iand dX6_hoursOfHearing_38 (nb_and _ _) ?_
        refine go_iconst (nI 1) dX6_hoursOfHearing_39 (by decide +kernel) ?_
        refine go_iload_n dX6_hoursOfHearing_40 rfl ?_
        refine go_ishl dX6_hoursOfHearing_41 (nb_one (by omega)) ?_
        refine go_iconst (-1) dX6_hoursOfHearing_42 (by decide +kernel) ?_
        refine go_ixor dX6_hoursOfHearing_43 rfl ?_
        refine go_iand dX6_hoursOfHearing_44 v44 ?_
        refine go_istore (L' := [_, _, _, _, _, _, _]) dX6_hoursOfHearing_45 (by decide) rfl ?_
        refine go_aload_n dX6_hoursOfHearing_47 rfl ?_
        refine go_getm dX6_hoursOfHearing_48 fX6_47 rfl (by decide) (by decide) (by decide) rfl hT ?_
        refine go_iload_n dX6_hoursOfHearing_51 rfl ?_
        refine go_iload dX6_hoursOfHearing_52 rfl ?_
        refine go_callV1 (K' := kX1_placeOf) [_, _] dX6_hoursOfHearing_54 mX6_112 lX1_placeOf rfl (by decide) rfl (by decide) rfl rfl (Nat.le_of_ble_eq_true rfl) (Nat.le_of_ble_eq_true rfl) (c_placeOf_35 (by omega) (by omega) (hpl _ _ hpP (by omega))) ?_
        refine go_iload_n dX6_hoursOfHearing_57 rfl ?_
        refine go_icmp_ne 69 dX6_hoursOfHearing_58 (by decide) (fun h58 => ?_) (fun h => absurd h (h1))
        refine go_iinc_n (L' := [_, _, _, _, _, _, _]) dX6_hoursOfHearing_69 rfl (by decide) rfl ?_
        refine go_goto 12 dX6_hoursOfHearing_72 (by decide) ?_
        exact hi _
  have k0 := key (6 - hr) 0 (by omega)
  show Go O (d + 1) kX6_hoursOfHearing _ m 0 [.ref 0, .int (nI n), .int (nI p), .int (nI a), .null, .null, .null] [] m
  refine go_iconst (nI 0) dX6_hoursOfHearing_0 (by decide +kernel) ?_
  refine go_istore (L' := [_, _, _, _, _, _, _]) dX6_hoursOfHearing_1 (by decide) rfl ?_
  refine go_aload_n dX6_hoursOfHearing_3 rfl ?_
  refine go_getc dX6_hoursOfHearing_4 fX6_19 rfl (by decide) (by decide) (by decide) rfl ?_
  refine go_geti dX6_hoursOfHearing_7 fX6_94 rfl (by decide) (by decide) (by decide) rfl s4 ?_
  refine go_istore (L' := [_, _, _, _, _, _, _]) dX6_hoursOfHearing_10 (by decide) rfl ?_
  exact k0 _
theorem c_divisor {O : gOm} {d : Nat} {m : gMem} {a b : Nat} (ha : a < 2 ^ 31) (hb : b < 2 ^ 31) : Ca O d kX7_divisor [.long (lN a), .long (lN b)] (some (.long (lN (Nat.gcd b a)))) m m := by
  have key : ∀ y x, x < 2 ^ 31 → y < 2 ^ 31 → ∀ u w, Go O d kX7_divisor (some (.long (lN (Nat.gcd y x)))) m 6 [.long (lN a), .null, .long (lN b), .null, .long (lN x), .null, .long (lN y), .null, u, w] [] m := by
    intro y
    induction y using Nat.strongRecOn with
    | ind y ih =>
      intro x hx hy u w
      by_cases e : y = 0
      · subst e
        rw [Nat.gcd_zero_left]
        refine go_lload dX7_divisor_6 rfl ?_
        refine go_lconst 0 dX7_divisor_8 (by decide +kernel) ?_
        refine go_lcmp dX7_divisor_9 rfl ?_
        refine go_if_eq 31 dX7_divisor_10 (by decide) (fun h10 => ?_) (fun h => absurd (by decide +kernel) h)
        refine go_lload dX7_divisor_31 rfl ?_
        exact go_lret dX7_divisor_33 rfl rfl rfl
      · have hm := Nat.mod_lt x (show y > 0 by omega)
        have h2 := ih (x % y) hm y hy (by omega)
        rw [Nat.gcd_rec]
        refine go_lload dX7_divisor_6 rfl ?_
        refine go_lconst 0 dX7_divisor_8 (by decide +kernel) ?_
        refine go_lcmp dX7_divisor_9 rfl ?_
        refine go_if_eq 31 dX7_divisor_10 (by decide) (fun h => absurd h (fun q => e ((lN_eq (b := 0) (by omega) (by omega)).mp ((lg_cmp_eq _ _).mp q)))) (fun h10 => ?_)
        refine go_lload dX7_divisor_13 rfl ?_
        refine go_lload dX7_divisor_15 rfl ?_
        refine go_lrem dX7_divisor_17 (fun q => e ((lN_eq (b := 0) (by omega) (by omega)).mp q)) (pk_lRem (by omega) (by omega) (by omega)) ?_
        refine go_lstore (L' := [_, _, _, _, _, _, _, _, _, _]) dX7_divisor_18 (by decide) rfl ?_
        refine go_lload dX7_divisor_20 rfl ?_
        refine go_lstore (L' := [_, _, _, _, _, _, _, _, _, _]) dX7_divisor_22 (by decide) rfl ?_
        refine go_lload dX7_divisor_24 rfl ?_
        refine go_lstore (L' := [_, _, _, _, _, _, _, _, _, _]) dX7_divisor_26 (by decide) rfl ?_
        refine go_goto 6 dX7_divisor_28 (by decide) ?_
        exact h2 _ _
  show Go O d kX7_divisor _ m 0 [.long (lN a), .null, .long (lN b), .null, .null, .null, .null, .null, .null, .null] [] m
  refine go_lload_n dX7_divisor_0 rfl ?_
  refine go_lstore (L' := [_, _, _, _, _, _, _, _, _, _]) dX7_divisor_1 (by decide) rfl ?_
  refine go_lload_n dX7_divisor_3 rfl ?_
  refine go_lstore (L' := [_, _, _, _, _, _, _, _, _, _]) dX7_divisor_4 (by decide) rfl ?_
  exact key b a ha hb _ _
theorem c_chanceM {O : gOm} {d : Nat} {m : gMem} {hr P k n p a x ms C : Nat} {up : Bool} (hP : m.1 46 4 = nI P) (hP6 : P ≤ 6) (hpP : p < P) (hn : n < 3) (ha : a < 3) (hk : k < 64) (hr6 : hr < 6) (hx : x < 11) (hms : 10 - x = ms) (h11 : m.1 46 11 = nI hr) (sk : m.1 52 (3 + n) = nI k) (hC : hcA (hrB (m.1 48) P k p a) hr (6 - hr) = C) : Go O (d + 3) kX7_chance (some (.long (lN (if up then (10 ^ C - ms ^ C) / Nat.gcd (10 ^ C) (10 ^ C - ms ^ C) else 10 ^ C / Nat.gcd (10 ^ C) (10 ^ C - ms ^ C))))) m 71 [.ref 46, .int (nI n), .int (nI p), .int (nI a), .int (nI x), .int (bI up), .null, .null, .null, .null, .null, .null] [] m := by
  have hC6 : C < 7 := by
    have := hcA_le (hrB (m.1 48) P k p a) hr (6 - hr)
    omega
  obtain ⟨b1, b2, b3⟩ := fr_b C hC6 ms (by omega)
  have hgp : 0 < Nat.gcd (10 ^ C) (10 ^ C - ms ^ C) := Nat.gcd_pos_of_pos_left _ b3
  have hgl : Nat.gcd (10 ^ C) (10 ^ C - ms ^ C) ≤ 10 ^ C := Nat.gcd_le_left _ b3
  have key : ∀ q c, hr + c + q = 6 → ∀ u, Go O (d + 3) kX7_chance (some (.long (lN (if up then (10 ^ C - ms ^ C) / Nat.gcd (10 ^ C) (10 ^ C - ms ^ C) else 10 ^ C / Nat.gcd (10 ^ C) (10 ^ C - ms ^ C))))) m 83 [.ref 46, .int (nI n), .int (nI p), .int (nI a), .int (nI x), .int (bI up), .long (lN (ms ^ hcA (hrB (m.1 48) P k p a) hr c)), .null, .long (lN (10 ^ hcA (hrB (m.1 48) P k p a) hr c)), .null, .int (nI (hr + c)), u] [] m := by
    intro q
    induction q with
    | zero =>
      intro c hc u
      obtain rfl : c = 6 - hr := by omega
      rw [hC]
      cases up with
      | true =>
        refine go_iload dX7_chance_83 rfl ?_
        refine go_bipush (nI 6) dX7_chance_85 (by decide +kernel) ?_
        refine go_icmp_ge 175 dX7_chance_87 (by decide) (fun h87 => ?_) (fun h => absurd (nI_le (by omega) (by omega)) h)
        refine go_lload dX7_chance_175 rfl ?_
        refine go_lload dX7_chance_177 rfl ?_
        refine go_lsub dX7_chance_179 (lN_sub b1) ?_
        refine go_lload dX7_chance_180 rfl ?_
        refine go_callS1 (K' := kX7_divisor) [_, _] dX7_chance_182 mX7_219 lX7_divisor rfl rfl (Nat.le_of_ble_eq_true rfl) (Nat.le_of_ble_eq_true rfl) (c_divisor (by omega) (by omega)) ?_
        refine go_lstore (L' := [_, _, _, _, _, _, _, _, _, _, _, _]) dX7_chance_185 (by decide) rfl ?_
        refine go_iload dX7_chance_187 rfl ?_
        refine go_if_eq 203 dX7_chance_189 (by decide) (fun h => absurd h (bI_n0.mpr rfl)) (fun h189 => ?_)
        refine go_lload dX7_chance_192 rfl ?_
        refine go_lload dX7_chance_194 rfl ?_
        refine go_lsub dX7_chance_196 (lN_sub b1) ?_
        refine go_lload dX7_chance_197 rfl ?_
        refine go_ldiv dX7_chance_199 (fun q => absurd ((lN_eq (b := 0) (by omega) (by omega)).mp q) (by omega)) (pk_lDiv (by omega) hgp (by omega)) ?_
        refine go_goto 208 dX7_chance_200 (by decide) ?_
        exact go_lret dX7_chance_208 rfl rfl rfl
      | false =>
        refine go_iload dX7_chance_83 rfl ?_
        refine go_bipush (nI 6) dX7_chance_85 (by decide +kernel) ?_
        refine go_icmp_ge 175 dX7_chance_87 (by decide) (fun h87 => ?_) (fun h => absurd (nI_le (by omega) (by omega)) h)
        refine go_lload dX7_chance_175 rfl ?_
        refine go_lload dX7_chance_177 rfl ?_
        refine go_lsub dX7_chance_179 (lN_sub b1) ?_
        refine go_lload dX7_chance_180 rfl ?_
        refine go_callS1 (K' := kX7_divisor) [_, _] dX7_chance_182 mX7_219 lX7_divisor rfl rfl (Nat.le_of_ble_eq_true rfl) (Nat.le_of_ble_eq_true rfl) (c_divisor (by omega) (by omega)) ?_
        refine go_lstore (L' := [_, _, _, _, _, _, _, _, _, _, _, _]) dX7_chance_185 (by decide) rfl ?_
        refine go_iload dX7_chance_187 rfl ?_
        refine go_if_eq 203 dX7_chance_189 (by decide) (fun h189 => ?_) (fun h => absurd (bI_0.mpr rfl) h)
        refine go_lload dX7_chance_203 rfl ?_
        refine go_lload dX7_chance_205 rfl ?_
        refine go_ldiv dX7_chance_207 (fun q => absurd ((lN_eq (b := 0) (by omega) (by omega)).mp q) (by omega)) (pk_lDiv (by omega) hgp (by omega)) ?_
        exact go_lret dX7_chance_208 rfl rfl rfl
    | succ q ih =>
      intro c hc u
      have hi := ih (c + 1) (by omega)
      rw [hcA] at hi
      generalize hcA (hrB (m.1 48) P k p a) hr c = e at hi ⊢
      have hz : grp (m.1 48) P (hr + c) a &&& k < 64 := Nat.and_lt_two_pow (n := 6) _ hk
      have f130 : ∀ (is : Bool), is = hrB (m.1 48) P k p a (hr + c) → ∀ u, Go O (d + 3) kX7_chance (some (.long (lN (if up then (10 ^ C - ms ^ C) / Nat.gcd (10 ^ C) (10 ^ C - ms ^ C) else 10 ^ C / Nat.gcd (10 ^ C) (10 ^ C - ms ^ C))))) m 130 [.ref 46, .int (nI n), .int (nI p), .int (nI a), .int (nI x), .int (bI up), .long (lN (ms ^ e)), .null, .long (lN (10 ^ e)), .null, .int (nI (hr + c)), u] [.int (bI is)] m := by
        intro is his u
        rw [← his] at hi
        cases is with
        | true =>
          have hi : ∀ u, Go O (d + 3) kX7_chance (some (.long (lN (if up then (10 ^ C - ms ^ C) / Nat.gcd (10 ^ C) (10 ^ C - ms ^ C) else 10 ^ C / Nat.gcd (10 ^ C) (10 ^ C - ms ^ C))))) m 83 [.ref 46, .int (nI n), .int (nI p), .int (nI a), .int (nI x), .int (bI up), .long (lN (ms ^ e * ms)), .null, .long (lN (10 ^ e * 10)), .null, .int (nI (hr + c + 1)), u] [] m := hi
          refine go_istore (L' := [_, _, _, _, _, _, _, _, _, _, _, _]) dX7_chance_130 (by decide) rfl ?_
          refine go_lload dX7_chance_132 rfl ?_
          refine go_iload dX7_chance_134 rfl ?_
          refine go_if_eq 148 dX7_chance_136 (by decide) (fun h => absurd h (bI_n0.mpr rfl)) (fun h136 => ?_)
          refine go_bipush (nI 10) dX7_chance_139 (by decide +kernel) ?_
          refine go_iload dX7_chance_141 rfl ?_
          refine go_isub dX7_chance_143 ((pk_sub (by omega)).trans (congrArg nI hms)) ?_
          refine go_i2l dX7_chance_144 (nI_l (by omega)) ?_
          refine go_goto 149 dX7_chance_145 (by decide) ?_
          refine go_lmul dX7_chance_149 (lN_mul _ _) ?_
          refine go_lstore (L' := [_, _, _, _, _, _, _, _, _, _, _, _]) dX7_chance_150 (by decide) rfl ?_
          refine go_lload dX7_chance_152 rfl ?_
          refine go_iload dX7_chance_154 rfl ?_
          refine go_if_eq 165 dX7_chance_156 (by decide) (fun h => absurd h (bI_n0.mpr rfl)) (fun h156 => ?_)
          refine go_ldc2 kcX7_215 dX7_chance_159 ?_
          refine go_goto 166 dX7_chance_162 (by decide) ?_
          refine go_lmul dX7_chance_166 (lN_mul _ 10) ?_
          refine go_lstore (L' := [_, _, _, _, _, _, _, _, _, _, _, _]) dX7_chance_167 (by decide) rfl ?_
          refine go_iinc_n (L' := [_, _, _, _, _, _, _, _, _, _, _, _]) dX7_chance_169 rfl (by decide) rfl ?_
          refine go_goto 83 dX7_chance_172 (by decide) ?_
          exact hi _
        | false =>
          have hi : ∀ u, Go O (d + 3) kX7_chance (some (.long (lN (if up then (10 ^ C - ms ^ C) / Nat.gcd (10 ^ C) (10 ^ C - ms ^ C) else 10 ^ C / Nat.gcd (10 ^ C) (10 ^ C - ms ^ C))))) m 83 [.ref 46, .int (nI n), .int (nI p), .int (nI a), .int (nI x), .int (bI up), .long (lN (ms ^ e)), .null, .long (lN (10 ^ e)), .null, .int (nI (hr + c + 1)), u] [] m := hi
          refine go_istore (L' := [_, _, _, _, _, _, _, _, _, _, _, _]) dX7_chance_130 (by decide) rfl ?_
          refine go_lload dX7_chance_132 rfl ?_
          refine go_iload dX7_chance_134 rfl ?_
          refine go_if_eq 148 dX7_chance_136 (by decide) (fun h136 => ?_) (fun h => absurd (bI_0.mpr rfl) h)
          refine go_lconst 1 dX7_chance_148 (by decide +kernel) ?_
          refine go_lmul dX7_chance_149 (Int64.mul_one _) ?_
          refine go_lstore (L' := [_, _, _, _, _, _, _, _, _, _, _, _]) dX7_chance_150 (by decide) rfl ?_
          refine go_lload dX7_chance_152 rfl ?_
          refine go_iload dX7_chance_154 rfl ?_
          refine go_if_eq 165 dX7_chance_156 (by decide) (fun h156 => ?_) (fun h => absurd (bI_0.mpr rfl) h)
          refine go_lconst 1 dX7_chance_165 (by decide +kernel) ?_
          refine go_lmul dX7_chance_166 (Int64.mul_one _) ?_
          refine go_lstore (L' := [_, _, _, _, _, _, _, _, _, _, _, _]) dX7_chance_167 (by decide) rfl ?_
          refine go_iinc_n (L' := [_, _, _, _, _, _, _, _, _, _, _, _]) dX7_chance_169 rfl (by decide) rfl ?_
          refine go_goto 83 dX7_chance_172 (by decide) ?_
          exact hi _
      by_cases h1 : m.1 48 (6 * p + (hr + c)) = nI a
      · by_cases h2 : grp (m.1 48) P (hr + c) a &&& k = 0
        · have g1 := f130 false (by simp [hrB, h2])
          refine go_iload dX7_chance_83 rfl ?_
          refine go_bipush (nI 6) dX7_chance_85 (by decide +kernel) ?_
          refine go_icmp_ge 175 dX7_chance_87 (by decide) (fun h => absurd h (nI_ge (by omega) (by omega))) (fun h87 => ?_)
          refine go_aload_n dX7_chance_90 rfl ?_
          refine go_getc dX7_chance_91 fX7_13 rfl (by decide) (by decide) (by decide) rfl ?_
          refine go_bipush (nI 6) dX7_chance_94 (by decide +kernel) ?_
          refine go_iload_n dX7_chance_96 rfl ?_
          first | refine go_imul_n dX7_chance_97 ?_ | refine go_imul dX7_chance_97 rfl ?_
          refine go_iload dX7_chance_98 rfl ?_
          first | refine go_iadd_n dX7_chance_100 ?_ | refine go_iadd dX7_chance_100 rfl ?_
          refine go_iald dX7_chance_101 rfl (by decide) rfl (by omega) (by decide) rfl ?_
          refine go_iload_n dX7_chance_102 rfl ?_
          refine go_icmp_ne 129 dX7_chance_103 (by decide) (fun h => absurd h (fun q => q h1)) (fun h103 => ?_)
          refine go_aload_n dX7_chance_106 rfl ?_
          refine go_iload_n dX7_chance_107 rfl ?_
          refine go_iload dX7_chance_108 rfl ?_
          refine go_callV1 (K' := kX7_those) [_, _] dX7_chance_110 mX7_158 lX7_those rfl (by decide) rfl (by decide) rfl rfl (Nat.le_of_ble_eq_true rfl) (Nat.le_of_ble_eq_true rfl) (c_grp hP hP6 (by omega)) ?_
          refine go_aload_n dX7_chance_113 rfl ?_
          refine go_getc dX7_chance_114 fX7_25 rfl (by decide) (by decide) (by decide) rfl ?_
          refine go_iconst (nI 3) dX7_chance_117 (by decide +kernel) ?_
          refine go_iload_n dX7_chance_118 rfl ?_
          first | refine go_iadd_n dX7_chance_119 ?_ | refine go_iadd dX7_chance_119 rfl ?_
          refine go_iald dX7_chance_120 rfl (by decide) rfl (by omega) (by decide) sk ?_
          refine go_iand dX7_chance_121 (nb_and _ _) ?_
          refine go_if_eq 129 dX7_chance_122 (by decide) (fun h122 => ?_) (fun h => absurd (by rw [h2]; rfl) h)
          refine go_iconst (nI 0) dX7_chance_129 (by decide +kernel) ?_
          exact g1 _
        · have g1 := f130 true (by simp [hrB, h1, h2])
          refine go_iload dX7_chance_83 rfl ?_
          refine go_bipush (nI 6) dX7_chance_85 (by decide +kernel) ?_
          refine go_icmp_ge 175 dX7_chance_87 (by decide) (fun h => absurd h (nI_ge (by omega) (by omega))) (fun h87 => ?_)
          refine go_aload_n dX7_chance_90 rfl ?_
          refine go_getc dX7_chance_91 fX7_13 rfl (by decide) (by decide) (by decide) rfl ?_
          refine go_bipush (nI 6) dX7_chance_94 (by decide +kernel) ?_
          refine go_iload_n dX7_chance_96 rfl ?_
          first | refine go_imul_n dX7_chance_97 ?_ | refine go_imul dX7_chance_97 rfl ?_
          refine go_iload dX7_chance_98 rfl ?_
          first | refine go_iadd_n dX7_chance_100 ?_ | refine go_iadd dX7_chance_100 rfl ?_
          refine go_iald dX7_chance_101 rfl (by decide) rfl (by omega) (by decide) rfl ?_
          refine go_iload_n dX7_chance_102 rfl ?_
          refine go_icmp_ne 129 dX7_chance_103 (by decide) (fun h => absurd h (fun q => q h1)) (fun h103 => ?_)
          refine go_aload_n dX7_chance_106 rfl ?_
          refine go_iload_n dX7_chance_107 rfl ?_
          refine go_iload dX7_chance_108 rfl ?_
          refine go_callV1 (K' := kX7_those) [_, _] dX7_chance_110 mX7_158 lX7_those rfl (by decide) rfl (by decide) rfl rfl (Nat.le_of_ble_eq_true rfl) (Nat.le_of_ble_eq_true rfl) (c_grp hP hP6 (by omega)) ?_
          refine go_aload_n dX7_chance_113 rfl ?_
          refine go_getc dX7_chance_114 fX7_25 rfl (by decide) (by decide) (by decide) rfl ?_
          refine go_iconst (nI 3) dX7_chance_117 (by decide +kernel) ?_
          refine go_iload_n dX7_chance_118 rfl ?_
          first | refine go_iadd_n dX7_chance_119 ?_ | refine go_iadd dX7_chance_119 rfl ?_
          refine go_iald dX7_chance_120 rfl (by decide) rfl (by omega) (by decide) sk ?_
          refine go_iand dX7_chance_121 (nb_and _ _) ?_
          refine go_if_eq 129 dX7_chance_122 (by decide) (fun h => absurd h (fun q => h2 ((nI_eq (b := 0) (by omega) (by omega)).mp q))) (fun h122 => ?_)
          refine go_iconst (nI 1) dX7_chance_125 (by decide +kernel) ?_
          refine go_goto 130 dX7_chance_126 (by decide) ?_
          exact g1 _
      · have g1 := f130 false (by simp [hrB, h1])
        refine go_iload dX7_chance_83 rfl ?_
        refine go_bipush (nI 6) dX7_chance_85 (by decide +kernel) ?_
        refine go_icmp_ge 175 dX7_chance_87 (by decide) (fun h => absurd h (nI_ge (by omega) (by omega))) (fun h87 => ?_)
        refine go_aload_n dX7_chance_90 rfl ?_
        refine go_getc dX7_chance_91 fX7_13 rfl (by decide) (by decide) (by decide) rfl ?_
        refine go_bipush (nI 6) dX7_chance_94 (by decide +kernel) ?_
        refine go_iload_n dX7_chance_96 rfl ?_
        first | refine go_imul_n dX7_chance_97 ?_ | refine go_imul dX7_chance_97 rfl ?_
        refine go_iload dX7_chance_98 rfl ?_
        first | refine go_iadd_n dX7_chance_100 ?_ | refine go_iadd dX7_chance_100 rfl ?_
        refine go_iald dX7_chance_101 rfl (by decide) rfl (by omega) (by decide) rfl ?_
        refine go_iload_n dX7_chance_102 rfl ?_
        refine go_icmp_ne 129 dX7_chance_103 (by decide) (fun h103 => ?_) (fun h => absurd h (h1))
        refine go_iconst (nI 0) dX7_chance_129 (by decide +kernel) ?_
        exact g1 _
  have k0 := key (6 - hr) 0 (by omega)
  rw [hcA, Nat.pow_zero, Nat.pow_zero] at k0
  refine go_lconst (lN 1) dX7_chance_71 (by decide +kernel) ?_
  refine go_lstore (L' := [_, _, _, _, _, _, _, _, _, _, _, _]) dX7_chance_72 (by decide) rfl ?_
  refine go_lconst (lN 1) dX7_chance_74 (by decide +kernel) ?_
  refine go_lstore (L' := [_, _, _, _, _, _, _, _, _, _, _, _]) dX7_chance_75 (by decide) rfl ?_
  refine go_aload_n dX7_chance_77 rfl ?_
  refine go_geti dX7_chance_78 fX7_137 rfl (by decide) (by decide) (by decide) rfl h11 ?_
  refine go_istore (L' := [_, _, _, _, _, _, _, _, _, _, _, _]) dX7_chance_81 (by decide) rfl ?_
  exact k0 _
theorem op_chance_29 {O : gOm} {d : Nat} {m : gMem} {n p a x : Int32} {up : Bool} (h0 : Inv m) (hT : m.2 0 = 29) : OpL O (d + 40) kX6_chance kX7_chance [.int n, .int p, .int a, .int x, .int (bI up)] m := by
  have hthr := h0.thr
  have hin0 := h0
  obtain ⟨P, N, lw, hr, aa, c, L, lim, h1, h2, h3, h4, h5, h6, h7, h8⟩ := h0
  obtain ⟨hP, hP6, hN, hN3, hlw, hl3, hw, hlim, hfs⟩ := id h2
  obtain ⟨t5, t6, t7, tp, tg, tn⟩ : IvT m 29 P N lw := hT ▸ h3
  obtain ⟨⟨s4, sk, st, sa, spl⟩, h11, ok1, ok2, ok3, ok4, ok5⟩ := id h4
  cases hin : iR n N with
  | false =>
    refine ⟨(-1), m, gup m 46 0 (nI 0), ?_, ?_, hthr⟩
    · show Go O (d + 40) kX6_chance _ _ 0 [.ref 0, .int n, .int p, .int a, .int x, .int (bI up)] [] m
      refine go_aload_n dX6_chance_0 rfl ?_
      refine go_iload_n dX6_chance_1 rfl ?_
      refine go_callV1 (K' := kX6_isNews) [_] dX6_chance_2 mX6_116 lX6_isNews rfl (by decide) rfl (by decide) rfl rfl (Nat.le_of_ble_eq_true rfl) (Nat.le_of_ble_eq_true rfl) (c_isNews_29 hT t6 (by omega)) ?_
      refine go_if_eq 25 dX6_chance_5 (by decide) (fun h5 => ?_) (fun h => absurd (bI_0.mpr hin) h)
      refine go_ldc2 kcX6_226 dX6_chance_25 ?_
      exact go_lret dX6_chance_28 rfl rfl rfl
    · show Go O (d + 40) kX7_chance _ _ 0 [.ref 46, .int n, .int p, .int a, .int x, .int (bI up), .null, .null, .null, .null, .null, .null] [] m
      refine go_aload_n dX7_chance_0 rfl ?_
      refine go_iconst (nI 0) dX7_chance_1 (by decide +kernel) ?_
      refine go_puti dX7_chance_2 fX7_77 rfl (by decide) (by decide) (by decide) rfl (fun _ _ _ h => by cases h; rfl) (Or.inl rfl) ?_
      refine go_aload_n dX7_chance_5 rfl ?_
      refine go_iload_n dX7_chance_6 rfl ?_
      refine go_callV1 (K' := kX7_noNews) [_] dX7_chance_7 mX7_155 lX7_noNews rfl (by decide) rfl (by decide) rfl rfl (Nat.le_of_ble_eq_true rfl) (Nat.le_of_ble_eq_true rfl) (c_noNews hN (by omega)) ?_
      refine go_if_ne 33 dX7_chance_10 (by decide) (fun h10 => ?_) (fun h => absurd h (bI_n0.mpr (by rw [hin]; rfl)))
      refine go_ldc2 kcX7_213 dX7_chance_33 ?_
      exact go_lret dX7_chance_36 rfl rfl rfl
  | true =>
  cases hip : iR p P with
  | false =>
    refine ⟨(-1), m, gup m 46 0 (nI 0), ?_, ?_, hthr⟩
    · show Go O (d + 40) kX6_chance _ _ 0 [.ref 0, .int n, .int p, .int a, .int x, .int (bI up)] [] m
      refine go_aload_n dX6_chance_0 rfl ?_
      refine go_iload_n dX6_chance_1 rfl ?_
      refine go_callV1 (K' := kX6_isNews) [_] dX6_chance_2 mX6_116 lX6_isNews rfl (by decide) rfl (by decide) rfl rfl (Nat.le_of_ble_eq_true rfl) (Nat.le_of_ble_eq_true rfl) (c_isNews_29 hT t6 (by omega)) ?_
      refine go_if_eq 25 dX6_chance_5 (by decide) (fun h => absurd h (bI_n0.mpr hin)) (fun h5 => ?_)
      refine go_aload_n dX6_chance_8 rfl ?_
      refine go_iload_n dX6_chance_9 rfl ?_
      refine go_callV1 (K' := kX6_isPerson) [_] dX6_chance_10 mX6_105 lX6_isPerson rfl (by decide) rfl (by decide) rfl rfl (Nat.le_of_ble_eq_true rfl) (Nat.le_of_ble_eq_true rfl) (c_isPerson_29 hT t5 hP6) ?_
      refine go_if_eq 25 dX6_chance_13 (by decide) (fun h13 => ?_) (fun h => absurd (bI_0.mpr hip) h)
      refine go_ldc2 kcX6_226 dX6_chance_25 ?_
      exact go_lret dX6_chance_28 rfl rfl rfl
    · show Go O (d + 40) kX7_chance _ _ 0 [.ref 46, .int n, .int p, .int a, .int x, .int (bI up), .null, .null, .null, .null, .null, .null] [] m
      refine go_aload_n dX7_chance_0 rfl ?_
      refine go_iconst (nI 0) dX7_chance_1 (by decide +kernel) ?_
      refine go_puti dX7_chance_2 fX7_77 rfl (by decide) (by decide) (by decide) rfl (fun _ _ _ h => by cases h; rfl) (Or.inl rfl) ?_
      refine go_aload_n dX7_chance_5 rfl ?_
      refine go_iload_n dX7_chance_6 rfl ?_
      refine go_callV1 (K' := kX7_noNews) [_] dX7_chance_7 mX7_155 lX7_noNews rfl (by decide) rfl (by decide) rfl rfl (Nat.le_of_ble_eq_true rfl) (Nat.le_of_ble_eq_true rfl) (c_noNews hN (by omega)) ?_
      refine go_if_ne 33 dX7_chance_10 (by decide) (fun h => absurd h (fun q => q (bI_0.mpr (by rw [hin]; rfl)))) (fun h10 => ?_)
      refine go_aload_n dX7_chance_13 rfl ?_
      refine go_iload_n dX7_chance_14 rfl ?_
      refine go_callV1 (K' := kX7_noOne) [_] dX7_chance_15 mX7_150 lX7_noOne rfl (by decide) rfl (by decide) rfl rfl (Nat.le_of_ble_eq_true rfl) (Nat.le_of_ble_eq_true rfl) (c_noOne hP hP6) ?_
      refine go_if_ne 33 dX7_chance_18 (by decide) (fun h18 => ?_) (fun h => absurd h (bI_n0.mpr (by rw [hip]; rfl)))
      refine go_ldc2 kcX7_213 dX7_chance_33 ?_
      exact go_lret dX7_chance_36 rfl rfl rfl
  | true =>
  cases hia : iR a 3 with
  | false =>
    by_cases z : a < 0
    · show OpL O (d + 40) kX6_chance kX7_chance [.int n, .int p, .int a, .int x, .int (bI up)] m
      refine ⟨(-1), m, gup m 46 0 (nI 0), ?_, ?_, hthr⟩
      · show Go O (d + 40) kX6_chance _ _ 0 [.ref 0, .int n, .int p, .int a, .int x, .int (bI up)] [] m
        refine go_aload_n dX6_chance_0 rfl ?_
        refine go_iload_n dX6_chance_1 rfl ?_
        refine go_callV1 (K' := kX6_isNews) [_] dX6_chance_2 mX6_116 lX6_isNews rfl (by decide) rfl (by decide) rfl rfl (Nat.le_of_ble_eq_true rfl) (Nat.le_of_ble_eq_true rfl) (c_isNews_29 hT t6 (by omega)) ?_
        refine go_if_eq 25 dX6_chance_5 (by decide) (fun h => absurd h (bI_n0.mpr hin)) (fun h5 => ?_)
        refine go_aload_n dX6_chance_8 rfl ?_
        refine go_iload_n dX6_chance_9 rfl ?_
        refine go_callV1 (K' := kX6_isPerson) [_] dX6_chance_10 mX6_105 lX6_isPerson rfl (by decide) rfl (by decide) rfl rfl (Nat.le_of_ble_eq_true rfl) (Nat.le_of_ble_eq_true rfl) (c_isPerson_29 hT t5 hP6) ?_
        refine go_if_eq 25 dX6_chance_13 (by decide) (fun h => absurd h (bI_n0.mpr hip)) (fun h13 => ?_)
        refine go_iload_n dX6_chance_16 rfl ?_
        refine go_if_lt 25 dX6_chance_17 (by decide) (fun h17 => ?_) (fun h => absurd (z) h)
        refine go_ldc2 kcX6_226 dX6_chance_25 ?_
        exact go_lret dX6_chance_28 rfl rfl rfl
      · show Go O (d + 40) kX7_chance _ _ 0 [.ref 46, .int n, .int p, .int a, .int x, .int (bI up), .null, .null, .null, .null, .null, .null] [] m
        refine go_aload_n dX7_chance_0 rfl ?_
        refine go_iconst (nI 0) dX7_chance_1 (by decide +kernel) ?_
        refine go_puti dX7_chance_2 fX7_77 rfl (by decide) (by decide) (by decide) rfl (fun _ _ _ h => by cases h; rfl) (Or.inl rfl) ?_
        refine go_aload_n dX7_chance_5 rfl ?_
        refine go_iload_n dX7_chance_6 rfl ?_
        refine go_callV1 (K' := kX7_noNews) [_] dX7_chance_7 mX7_155 lX7_noNews rfl (by decide) rfl (by decide) rfl rfl (Nat.le_of_ble_eq_true rfl) (Nat.le_of_ble_eq_true rfl) (c_noNews hN (by omega)) ?_
        refine go_if_ne 33 dX7_chance_10 (by decide) (fun h => absurd h (fun q => q (bI_0.mpr (by rw [hin]; rfl)))) (fun h10 => ?_)
        refine go_aload_n dX7_chance_13 rfl ?_
        refine go_iload_n dX7_chance_14 rfl ?_
        refine go_callV1 (K' := kX7_noOne) [_] dX7_chance_15 mX7_150 lX7_noOne rfl (by decide) rfl (by decide) rfl rfl (Nat.le_of_ble_eq_true rfl) (Nat.le_of_ble_eq_true rfl) (c_noOne hP hP6) ?_
        refine go_if_ne 33 dX7_chance_18 (by decide) (fun h => absurd h (fun q => q (bI_0.mpr (by rw [hip]; rfl)))) (fun h18 => ?_)
        refine go_iload_n dX7_chance_21 rfl ?_
        refine go_i2l dX7_chance_22 rfl ?_
        refine go_lconst 0 dX7_chance_23 (by decide +kernel) ?_
        refine go_ldc2 kcX7_211 dX7_chance_24 ?_
        refine go_callS1 (K' := kX7_in) [_, _, _] dX7_chance_27 mX7_84 lX7_in rfl rfl (Nat.le_of_ble_eq_true rfl) (Nat.le_of_ble_eq_true rfl) (c_in) ?_
        refine go_if_ne 37 dX7_chance_30 (by decide) (fun h => absurd h (fun q => q (bI_0.mpr ((in_2 a).trans hia)))) (fun h30 => ?_)
        refine go_ldc2 kcX7_213 dX7_chance_33 ?_
        exact go_lret dX7_chance_36 rfl rfl rfl
    · have z2 : ¬ a < nI 3 := fun q => by
        have := iR_mid (x := a) (n := 3) (by omega) z (by rw [Int32.not_le]; exact q)
        rw [hia] at this
        cases this
      refine ⟨(-1), m, gup m 46 0 (nI 0), ?_, ?_, hthr⟩
      · show Go O (d + 40) kX6_chance _ _ 0 [.ref 0, .int n, .int p, .int a, .int x, .int (bI up)] [] m
        refine go_aload_n dX6_chance_0 rfl ?_
        refine go_iload_n dX6_chance_1 rfl ?_
        refine go_callV1 (K' := kX6_isNews) [_] dX6_chance_2 mX6_116 lX6_isNews rfl (by decide) rfl (by decide) rfl rfl (Nat.le_of_ble_eq_true rfl) (Nat.le_of_ble_eq_true rfl) (c_isNews_29 hT t6 (by omega)) ?_
        refine go_if_eq 25 dX6_chance_5 (by decide) (fun h => absurd h (bI_n0.mpr hin)) (fun h5 => ?_)
        refine go_aload_n dX6_chance_8 rfl ?_
        refine go_iload_n dX6_chance_9 rfl ?_
        refine go_callV1 (K' := kX6_isPerson) [_] dX6_chance_10 mX6_105 lX6_isPerson rfl (by decide) rfl (by decide) rfl rfl (Nat.le_of_ble_eq_true rfl) (Nat.le_of_ble_eq_true rfl) (c_isPerson_29 hT t5 hP6) ?_
        refine go_if_eq 25 dX6_chance_13 (by decide) (fun h => absurd h (bI_n0.mpr hip)) (fun h13 => ?_)
        refine go_iload_n dX6_chance_16 rfl ?_
        refine go_if_lt 25 dX6_chance_17 (by decide) (fun h => absurd h (z)) (fun h17 => ?_)
        refine go_iload_n dX6_chance_20 rfl ?_
        refine go_iconst (nI 3) dX6_chance_21 (by decide +kernel) ?_
        refine go_icmp_lt 29 dX6_chance_22 (by decide) (fun h => absurd h (z2)) (fun h22 => ?_)
        refine go_ldc2 kcX6_226 dX6_chance_25 ?_
        exact go_lret dX6_chance_28 rfl rfl rfl
      · show Go O (d + 40) kX7_chance _ _ 0 [.ref 46, .int n, .int p, .int a, .int x, .int (bI up), .null, .null, .null, .null, .null, .null] [] m
        refine go_aload_n dX7_chance_0 rfl ?_
        refine go_iconst (nI 0) dX7_chance_1 (by decide +kernel) ?_
        refine go_puti dX7_chance_2 fX7_77 rfl (by decide) (by decide) (by decide) rfl (fun _ _ _ h => by cases h; rfl) (Or.inl rfl) ?_
        refine go_aload_n dX7_chance_5 rfl ?_
        refine go_iload_n dX7_chance_6 rfl ?_
        refine go_callV1 (K' := kX7_noNews) [_] dX7_chance_7 mX7_155 lX7_noNews rfl (by decide) rfl (by decide) rfl rfl (Nat.le_of_ble_eq_true rfl) (Nat.le_of_ble_eq_true rfl) (c_noNews hN (by omega)) ?_
        refine go_if_ne 33 dX7_chance_10 (by decide) (fun h => absurd h (fun q => q (bI_0.mpr (by rw [hin]; rfl)))) (fun h10 => ?_)
        refine go_aload_n dX7_chance_13 rfl ?_
        refine go_iload_n dX7_chance_14 rfl ?_
        refine go_callV1 (K' := kX7_noOne) [_] dX7_chance_15 mX7_150 lX7_noOne rfl (by decide) rfl (by decide) rfl rfl (Nat.le_of_ble_eq_true rfl) (Nat.le_of_ble_eq_true rfl) (c_noOne hP hP6) ?_
        refine go_if_ne 33 dX7_chance_18 (by decide) (fun h => absurd h (fun q => q (bI_0.mpr (by rw [hip]; rfl)))) (fun h18 => ?_)
        refine go_iload_n dX7_chance_21 rfl ?_
        refine go_i2l dX7_chance_22 rfl ?_
        refine go_lconst 0 dX7_chance_23 (by decide +kernel) ?_
        refine go_ldc2 kcX7_211 dX7_chance_24 ?_
        refine go_callS1 (K' := kX7_in) [_, _, _] dX7_chance_27 mX7_84 lX7_in rfl rfl (Nat.le_of_ble_eq_true rfl) (Nat.le_of_ble_eq_true rfl) (c_in) ?_
        refine go_if_ne 37 dX7_chance_30 (by decide) (fun h => absurd h (fun q => q (bI_0.mpr ((in_2 a).trans hia)))) (fun h30 => ?_)
        refine go_ldc2 kcX7_213 dX7_chance_33 ?_
        exact go_lret dX7_chance_36 rfl rfl rfl
  | true =>
  obtain ⟨a, ha3, rfl⟩ := iR_of hia
  cases hix : iR x 11 with
  | false =>
    by_cases z : x < 0
    · show OpL O (d + 40) kX6_chance kX7_chance [.int n, .int p, .int (nI a), .int x, .int (bI up)] m
      refine ⟨(-2), m, gup m 46 0 (nI 0), ?_, ?_, hthr⟩
      · show Go O (d + 40) kX6_chance _ _ 0 [.ref 0, .int n, .int p, .int (nI a), .int x, .int (bI up)] [] m
        refine go_aload_n dX6_chance_0 rfl ?_
        refine go_iload_n dX6_chance_1 rfl ?_
        refine go_callV1 (K' := kX6_isNews) [_] dX6_chance_2 mX6_116 lX6_isNews rfl (by decide) rfl (by decide) rfl rfl (Nat.le_of_ble_eq_true rfl) (Nat.le_of_ble_eq_true rfl) (c_isNews_29 hT t6 (by omega)) ?_
        refine go_if_eq 25 dX6_chance_5 (by decide) (fun h => absurd h (bI_n0.mpr hin)) (fun h5 => ?_)
        refine go_aload_n dX6_chance_8 rfl ?_
        refine go_iload_n dX6_chance_9 rfl ?_
        refine go_callV1 (K' := kX6_isPerson) [_] dX6_chance_10 mX6_105 lX6_isPerson rfl (by decide) rfl (by decide) rfl rfl (Nat.le_of_ble_eq_true rfl) (Nat.le_of_ble_eq_true rfl) (c_isPerson_29 hT t5 hP6) ?_
        refine go_if_eq 25 dX6_chance_13 (by decide) (fun h => absurd h (bI_n0.mpr hip)) (fun h13 => ?_)
        refine go_iload_n dX6_chance_16 rfl ?_
        refine go_if_lt 25 dX6_chance_17 (by decide) (fun h => absurd h (nI_pos (by omega))) (fun h17 => ?_)
        refine go_iload_n dX6_chance_20 rfl ?_
        refine go_iconst (nI 3) dX6_chance_21 (by decide +kernel) ?_
        refine go_icmp_lt 29 dX6_chance_22 (by decide) (fun h22 => ?_) (fun h => absurd (nI_lt (by omega) (by omega)) h)
        refine go_iload dX6_chance_29 rfl ?_
        refine go_if_lt 41 dX6_chance_31 (by decide) (fun h31 => ?_) (fun h => absurd (z) h)
        refine go_ldc2 kcX6_228 dX6_chance_41 ?_
        exact go_lret dX6_chance_44 rfl rfl rfl
      · show Go O (d + 40) kX7_chance _ _ 0 [.ref 46, .int n, .int p, .int (nI a), .int x, .int (bI up), .null, .null, .null, .null, .null, .null] [] m
        refine go_aload_n dX7_chance_0 rfl ?_
        refine go_iconst (nI 0) dX7_chance_1 (by decide +kernel) ?_
        refine go_puti dX7_chance_2 fX7_77 rfl (by decide) (by decide) (by decide) rfl (fun _ _ _ h => by cases h; rfl) (Or.inl rfl) ?_
        refine go_aload_n dX7_chance_5 rfl ?_
        refine go_iload_n dX7_chance_6 rfl ?_
        refine go_callV1 (K' := kX7_noNews) [_] dX7_chance_7 mX7_155 lX7_noNews rfl (by decide) rfl (by decide) rfl rfl (Nat.le_of_ble_eq_true rfl) (Nat.le_of_ble_eq_true rfl) (c_noNews hN (by omega)) ?_
        refine go_if_ne 33 dX7_chance_10 (by decide) (fun h => absurd h (fun q => q (bI_0.mpr (by rw [hin]; rfl)))) (fun h10 => ?_)
        refine go_aload_n dX7_chance_13 rfl ?_
        refine go_iload_n dX7_chance_14 rfl ?_
        refine go_callV1 (K' := kX7_noOne) [_] dX7_chance_15 mX7_150 lX7_noOne rfl (by decide) rfl (by decide) rfl rfl (Nat.le_of_ble_eq_true rfl) (Nat.le_of_ble_eq_true rfl) (c_noOne hP hP6) ?_
        refine go_if_ne 33 dX7_chance_18 (by decide) (fun h => absurd h (fun q => q (bI_0.mpr (by rw [hip]; rfl)))) (fun h18 => ?_)
        refine go_iload_n dX7_chance_21 rfl ?_
        refine go_i2l dX7_chance_22 rfl ?_
        refine go_lconst 0 dX7_chance_23 (by decide +kernel) ?_
        refine go_ldc2 kcX7_211 dX7_chance_24 ?_
        refine go_callS1 (K' := kX7_in) [_, _, _] dX7_chance_27 mX7_84 lX7_in rfl rfl (Nat.le_of_ble_eq_true rfl) (Nat.le_of_ble_eq_true rfl) (c_in) ?_
        refine go_if_ne 37 dX7_chance_30 (by decide) (fun h30 => ?_) (fun h => absurd h (bI_n0.mpr ((in_2 _).trans hia)))
        refine go_iload dX7_chance_37 rfl ?_
        refine go_i2l dX7_chance_39 rfl ?_
        refine go_lconst 0 dX7_chance_40 (by decide +kernel) ?_
        refine go_ldc2 kcX7_215 dX7_chance_41 ?_
        refine go_callS1 (K' := kX7_in) [_, _, _] dX7_chance_44 mX7_84 lX7_in rfl rfl (Nat.le_of_ble_eq_true rfl) (Nat.le_of_ble_eq_true rfl) (c_in) ?_
        refine go_if_ne 54 dX7_chance_47 (by decide) (fun h => absurd h (fun q => q (bI_0.mpr ((in_10 x).trans hix)))) (fun h47 => ?_)
        refine go_ldc2 kcX7_217 dX7_chance_50 ?_
        exact go_lret dX7_chance_53 rfl rfl rfl
    · have z2 : ¬ x ≤ nI 10 := fun q => by
        have := iR_ng (x := x) (n := 10) (by omega) z (Int32.not_lt.mpr q)
        rw [hix] at this
        cases this
      refine ⟨(-2), m, gup m 46 0 (nI 0), ?_, ?_, hthr⟩
      · show Go O (d + 40) kX6_chance _ _ 0 [.ref 0, .int n, .int p, .int (nI a), .int x, .int (bI up)] [] m
        refine go_aload_n dX6_chance_0 rfl ?_
        refine go_iload_n dX6_chance_1 rfl ?_
        refine go_callV1 (K' := kX6_isNews) [_] dX6_chance_2 mX6_116 lX6_isNews rfl (by decide) rfl (by decide) rfl rfl (Nat.le_of_ble_eq_true rfl) (Nat.le_of_ble_eq_true rfl) (c_isNews_29 hT t6 (by omega)) ?_
        refine go_if_eq 25 dX6_chance_5 (by decide) (fun h => absurd h (bI_n0.mpr hin)) (fun h5 => ?_)
        refine go_aload_n dX6_chance_8 rfl ?_
        refine go_iload_n dX6_chance_9 rfl ?_
        refine go_callV1 (K' := kX6_isPerson) [_] dX6_chance_10 mX6_105 lX6_isPerson rfl (by decide) rfl (by decide) rfl rfl (Nat.le_of_ble_eq_true rfl) (Nat.le_of_ble_eq_true rfl) (c_isPerson_29 hT t5 hP6) ?_
        refine go_if_eq 25 dX6_chance_13 (by decide) (fun h => absurd h (bI_n0.mpr hip)) (fun h13 => ?_)
        refine go_iload_n dX6_chance_16 rfl ?_
        refine go_if_lt 25 dX6_chance_17 (by decide) (fun h => absurd h (nI_pos (by omega))) (fun h17 => ?_)
        refine go_iload_n dX6_chance_20 rfl ?_
        refine go_iconst (nI 3) dX6_chance_21 (by decide +kernel) ?_
        refine go_icmp_lt 29 dX6_chance_22 (by decide) (fun h22 => ?_) (fun h => absurd (nI_lt (by omega) (by omega)) h)
        refine go_iload dX6_chance_29 rfl ?_
        refine go_if_lt 41 dX6_chance_31 (by decide) (fun h => absurd h (z)) (fun h31 => ?_)
        refine go_iload dX6_chance_34 rfl ?_
        refine go_bipush (nI 10) dX6_chance_36 (by decide +kernel) ?_
        refine go_icmp_le 45 dX6_chance_38 (by decide) (fun h => absurd h (z2)) (fun h38 => ?_)
        refine go_ldc2 kcX6_228 dX6_chance_41 ?_
        exact go_lret dX6_chance_44 rfl rfl rfl
      · show Go O (d + 40) kX7_chance _ _ 0 [.ref 46, .int n, .int p, .int (nI a), .int x, .int (bI up), .null, .null, .null, .null, .null, .null] [] m
        refine go_aload_n dX7_chance_0 rfl ?_
        refine go_iconst (nI 0) dX7_chance_1 (by decide +kernel) ?_
        refine go_puti dX7_chance_2 fX7_77 rfl (by decide) (by decide) (by decide) rfl (fun _ _ _ h => by cases h; rfl) (Or.inl rfl) ?_
        refine go_aload_n dX7_chance_5 rfl ?_
        refine go_iload_n dX7_chance_6 rfl ?_
        refine go_callV1 (K' := kX7_noNews) [_] dX7_chance_7 mX7_155 lX7_noNews rfl (by decide) rfl (by decide) rfl rfl (Nat.le_of_ble_eq_true rfl) (Nat.le_of_ble_eq_true rfl) (c_noNews hN (by omega)) ?_
        refine go_if_ne 33 dX7_chance_10 (by decide) (fun h => absurd h (fun q => q (bI_0.mpr (by rw [hin]; rfl)))) (fun h10 => ?_)
        refine go_aload_n dX7_chance_13 rfl ?_
        refine go_iload_n dX7_chance_14 rfl ?_
        refine go_callV1 (K' := kX7_noOne) [_] dX7_chance_15 mX7_150 lX7_noOne rfl (by decide) rfl (by decide) rfl rfl (Nat.le_of_ble_eq_true rfl) (Nat.le_of_ble_eq_true rfl) (c_noOne hP hP6) ?_
        refine go_if_ne 33 dX7_chance_18 (by decide) (fun h => absurd h (fun q => q (bI_0.mpr (by rw [hip]; rfl)))) (fun h18 => ?_)
        refine go_iload_n dX7_chance_21 rfl ?_
        refine go_i2l dX7_chance_22 rfl ?_
        refine go_lconst 0 dX7_chance_23 (by decide +kernel) ?_
        refine go_ldc2 kcX7_211 dX7_chance_24 ?_
        refine go_callS1 (K' := kX7_in) [_, _, _] dX7_chance_27 mX7_84 lX7_in rfl rfl (Nat.le_of_ble_eq_true rfl) (Nat.le_of_ble_eq_true rfl) (c_in) ?_
        refine go_if_ne 37 dX7_chance_30 (by decide) (fun h30 => ?_) (fun h => absurd h (bI_n0.mpr ((in_2 _).trans hia)))
        refine go_iload dX7_chance_37 rfl ?_
        refine go_i2l dX7_chance_39 rfl ?_
        refine go_lconst 0 dX7_chance_40 (by decide +kernel) ?_
        refine go_ldc2 kcX7_215 dX7_chance_41 ?_
        refine go_callS1 (K' := kX7_in) [_, _, _] dX7_chance_44 mX7_84 lX7_in rfl rfl (Nat.le_of_ble_eq_true rfl) (Nat.le_of_ble_eq_true rfl) (c_in) ?_
        refine go_if_ne 54 dX7_chance_47 (by decide) (fun h => absurd h (fun q => q (bI_0.mpr ((in_10 x).trans hix)))) (fun h47 => ?_)
        refine go_ldc2 kcX7_217 dX7_chance_50 ?_
        exact go_lret dX7_chance_53 rfl rfl rfl
  | true =>
  obtain ⟨x, hx11, rfl⟩ := iR_of hix
  obtain ⟨n, hnN, rfl⟩ := iR_of hin
  obtain ⟨p, hpP, rfl⟩ := iR_of hip
  obtain ⟨k, hk, ek⟩ := ok2 n (by omega)
  cases hkp : k.testBit p with
  | true =>
    refine ⟨1, m, gup m 46 0 (nI 0), ?_, ?_, hthr⟩
    · show Go O (d + 40) kX6_chance _ _ 0 [.ref 0, .int (nI n), .int (nI p), .int (nI a), .int (nI x), .int (bI up)] [] m
      refine go_aload_n dX6_chance_0 rfl ?_
      refine go_iload_n dX6_chance_1 rfl ?_
      refine go_callV1 (K' := kX6_isNews) [_] dX6_chance_2 mX6_116 lX6_isNews rfl (by decide) rfl (by decide) rfl rfl (Nat.le_of_ble_eq_true rfl) (Nat.le_of_ble_eq_true rfl) (c_isNews_29 hT t6 (by omega)) ?_
      refine go_if_eq 25 dX6_chance_5 (by decide) (fun h => absurd h (bI_n0.mpr hin)) (fun h5 => ?_)
      refine go_aload_n dX6_chance_8 rfl ?_
      refine go_iload_n dX6_chance_9 rfl ?_
      refine go_callV1 (K' := kX6_isPerson) [_] dX6_chance_10 mX6_105 lX6_isPerson rfl (by decide) rfl (by decide) rfl rfl (Nat.le_of_ble_eq_true rfl) (Nat.le_of_ble_eq_true rfl) (c_isPerson_29 hT t5 hP6) ?_
      refine go_if_eq 25 dX6_chance_13 (by decide) (fun h => absurd h (bI_n0.mpr hip)) (fun h13 => ?_)
      refine go_iload_n dX6_chance_16 rfl ?_
      refine go_if_lt 25 dX6_chance_17 (by decide) (fun h => absurd h (nI_pos (by omega))) (fun h17 => ?_)
      refine go_iload_n dX6_chance_20 rfl ?_
      refine go_iconst (nI 3) dX6_chance_21 (by decide +kernel) ?_
      refine go_icmp_lt 29 dX6_chance_22 (by decide) (fun h22 => ?_) (fun h => absurd (nI_lt (by omega) (by omega)) h)
      refine go_iload dX6_chance_29 rfl ?_
      refine go_if_lt 41 dX6_chance_31 (by decide) (fun h => absurd h (nI_pos (by omega))) (fun h31 => ?_)
      refine go_iload dX6_chance_34 rfl ?_
      refine go_bipush (nI 10) dX6_chance_36 (by decide +kernel) ?_
      refine go_icmp_le 45 dX6_chance_38 (by decide) (fun h38 => ?_) (fun h => absurd (nI_le (by omega) (by omega)) h)
      refine go_aload_n dX6_chance_45 rfl ?_
      refine go_getc dX6_chance_46 fX6_19 rfl (by decide) (by decide) (by decide) rfl ?_
      refine go_iload_n dX6_chance_49 rfl ?_
      refine go_iload_n dX6_chance_50 rfl ?_
      refine go_callV1 (K' := kX5_knows) [_, _] dX6_chance_51 mX6_139 lX5_knows rfl (by decide) rfl (by decide) rfl rfl (Nat.le_of_ble_eq_true rfl) (Nat.le_of_ble_eq_true rfl) (c_knows_3 (by omega) (by omega) hk ((sk n (by omega)).trans ek)) ?_
      refine go_if_eq 59 dX6_chance_54 (by decide) (fun h => absurd h (bI_n0.mpr hkp)) (fun h54 => ?_)
      refine go_lconst 1 dX6_chance_57 (by decide +kernel) ?_
      exact go_lret dX6_chance_58 rfl rfl rfl
    · show Go O (d + 40) kX7_chance _ _ 0 [.ref 46, .int (nI n), .int (nI p), .int (nI a), .int (nI x), .int (bI up), .null, .null, .null, .null, .null, .null] [] m
      refine go_aload_n dX7_chance_0 rfl ?_
      refine go_iconst (nI 0) dX7_chance_1 (by decide +kernel) ?_
      refine go_puti dX7_chance_2 fX7_77 rfl (by decide) (by decide) (by decide) rfl (fun _ _ _ h => by cases h; rfl) (Or.inl rfl) ?_
      refine go_aload_n dX7_chance_5 rfl ?_
      refine go_iload_n dX7_chance_6 rfl ?_
      refine go_callV1 (K' := kX7_noNews) [_] dX7_chance_7 mX7_155 lX7_noNews rfl (by decide) rfl (by decide) rfl rfl (Nat.le_of_ble_eq_true rfl) (Nat.le_of_ble_eq_true rfl) (c_noNews hN (by omega)) ?_
      refine go_if_ne 33 dX7_chance_10 (by decide) (fun h => absurd h (fun q => q (bI_0.mpr (by rw [hin]; rfl)))) (fun h10 => ?_)
      refine go_aload_n dX7_chance_13 rfl ?_
      refine go_iload_n dX7_chance_14 rfl ?_
      refine go_callV1 (K' := kX7_noOne) [_] dX7_chance_15 mX7_150 lX7_noOne rfl (by decide) rfl (by decide) rfl rfl (Nat.le_of_ble_eq_true rfl) (Nat.le_of_ble_eq_true rfl) (c_noOne hP hP6) ?_
      refine go_if_ne 33 dX7_chance_18 (by decide) (fun h => absurd h (fun q => q (bI_0.mpr (by rw [hip]; rfl)))) (fun h18 => ?_)
      refine go_iload_n dX7_chance_21 rfl ?_
      refine go_i2l dX7_chance_22 rfl ?_
      refine go_lconst 0 dX7_chance_23 (by decide +kernel) ?_
      refine go_ldc2 kcX7_211 dX7_chance_24 ?_
      refine go_callS1 (K' := kX7_in) [_, _, _] dX7_chance_27 mX7_84 lX7_in rfl rfl (Nat.le_of_ble_eq_true rfl) (Nat.le_of_ble_eq_true rfl) (c_in) ?_
      refine go_if_ne 37 dX7_chance_30 (by decide) (fun h30 => ?_) (fun h => absurd h (bI_n0.mpr ((in_2 _).trans hia)))
      refine go_iload dX7_chance_37 rfl ?_
      refine go_i2l dX7_chance_39 rfl ?_
      refine go_lconst 0 dX7_chance_40 (by decide +kernel) ?_
      refine go_ldc2 kcX7_215 dX7_chance_41 ?_
      refine go_callS1 (K' := kX7_in) [_, _, _] dX7_chance_44 mX7_84 lX7_in rfl rfl (Nat.le_of_ble_eq_true rfl) (Nat.le_of_ble_eq_true rfl) (c_in) ?_
      refine go_if_ne 54 dX7_chance_47 (by decide) (fun h47 => ?_) (fun h => absurd h (bI_n0.mpr ((in_10 _).trans hix)))
      refine go_aload_n dX7_chance_54 rfl ?_
      refine go_getc dX7_chance_55 fX7_25 rfl (by decide) (by decide) (by decide) rfl ?_
      refine go_iconst (nI 3) dX7_chance_58 (by decide +kernel) ?_
      refine go_iload_n dX7_chance_59 rfl ?_
      first | refine go_iadd_n dX7_chance_60 ?_ | refine go_iadd dX7_chance_60 rfl ?_
      refine go_iald dX7_chance_61 rfl (by decide) rfl (by omega) (by decide) ek ?_
      refine go_iload_n dX7_chance_62 rfl ?_
      refine go_callS1 (K' := kX7_has) [_, _] dX7_chance_63 mX7_109 lX7_has rfl rfl (Nat.le_of_ble_eq_true rfl) (Nat.le_of_ble_eq_true rfl) (c_has (by omega) (by omega)) ?_
      refine go_if_eq 71 dX7_chance_66 (by decide) (fun h => absurd h (bI_n0.mpr hkp)) (fun h66 => ?_)
      refine go_lconst 1 dX7_chance_69 (by decide +kernel) ?_
      exact go_lret dX7_chance_70 rfl rfl rfl
  | false =>
    obtain ⟨C, hC⟩ : ∃ C, hcA (hrB (m.1 48) P k p a) hr (6 - hr) = C := ⟨_, rfl⟩
    have hC6 : C < 7 := by
      have := hcA_le (hrB (m.1 48) P k p a) hr (6 - hr)
      omega
    obtain ⟨b1, b2, b3⟩ := fr_b C hC6 (10 - x) (by omega)
    have ch := c_hearing_29 (O := O) (d := d + 38) (m := m) (w := m.1 48) (hr := hr) (P := P) (k := k) (n := n) (p := p) (a := a) hT hP6 hpP (by omega) ha3 hk hkp ok1 tg tp s4 ((sk n (by omega)).trans ek)
    rw [hC] at ch
    have cf := c_fraction (O := O) (d := d + 38) (m := m) (ms := 10 - x) (c := C) (up := up) (by omega) hC6
    rw [fr_eq C hC6 (10 - x) (by omega)] at cf
    have cm := c_chanceM (O := O) (d := d + 37) (m := gup m 46 0 (nI 0)) (hr := hr) (P := P) (k := k) (n := n) (p := p) (a := a) (x := x) (ms := 10 - x) (C := C) (up := up) hP hP6 hpP (by omega) ha3 hk ok1 hx11 rfl h11 ek hC
    have bb : (if up then (10 ^ C - (10 - x) ^ C) / Nat.gcd (10 ^ C) (10 ^ C - (10 - x) ^ C) else 10 ^ C / Nat.gcd (10 ^ C) (10 ^ C - (10 - x) ^ C)) < 2 ^ 31 := by
      have z1 := Nat.div_le_self (10 ^ C - (10 - x) ^ C) (Nat.gcd (10 ^ C) (10 ^ C - (10 - x) ^ C))
      have z2 := Nat.div_le_self (10 ^ C) (Nat.gcd (10 ^ C) (10 ^ C - (10 - x) ^ C))
      split <;> omega
    refine ⟨(lN (if up then (10 ^ C - (10 - x) ^ C) / Nat.gcd (10 ^ C) (10 ^ C - (10 - x) ^ C) else 10 ^ C / Nat.gcd (10 ^ C) (10 ^ C - (10 - x) ^ C))), m, gup m 46 0 (nI 0), ?_, ?_, hthr⟩
    · show Go O (d + 40) kX6_chance (some (.long (lN (if up then (10 ^ C - (10 - x) ^ C) / Nat.gcd (10 ^ C) (10 ^ C - (10 - x) ^ C) else 10 ^ C / Nat.gcd (10 ^ C) (10 ^ C - (10 - x) ^ C))))) _ 0 [.ref 0, .int (nI n), .int (nI p), .int (nI a), .int (nI x), .int (bI up)] [] m
      refine go_aload_n dX6_chance_0 rfl ?_
      refine go_iload_n dX6_chance_1 rfl ?_
      refine go_callV1 (K' := kX6_isNews) [_] dX6_chance_2 mX6_116 lX6_isNews rfl (by decide) rfl (by decide) rfl rfl (Nat.le_of_ble_eq_true rfl) (Nat.le_of_ble_eq_true rfl) (c_isNews_29 hT t6 (by omega)) ?_
      refine go_if_eq 25 dX6_chance_5 (by decide) (fun h => absurd h (bI_n0.mpr hin)) (fun h5 => ?_)
      refine go_aload_n dX6_chance_8 rfl ?_
      refine go_iload_n dX6_chance_9 rfl ?_
      refine go_callV1 (K' := kX6_isPerson) [_] dX6_chance_10 mX6_105 lX6_isPerson rfl (by decide) rfl (by decide) rfl rfl (Nat.le_of_ble_eq_true rfl) (Nat.le_of_ble_eq_true rfl) (c_isPerson_29 hT t5 hP6) ?_
      refine go_if_eq 25 dX6_chance_13 (by decide) (fun h => absurd h (bI_n0.mpr hip)) (fun h13 => ?_)
      refine go_iload_n dX6_chance_16 rfl ?_
      refine go_if_lt 25 dX6_chance_17 (by decide) (fun h => absurd h (nI_pos (by omega))) (fun h17 => ?_)
      refine go_iload_n dX6_chance_20 rfl ?_
      refine go_iconst (nI 3) dX6_chance_21 (by decide +kernel) ?_
      refine go_icmp_lt 29 dX6_chance_22 (by decide) (fun h22 => ?_) (fun h => absurd (nI_lt (by omega) (by omega)) h)
      refine go_iload dX6_chance_29 rfl ?_
      refine go_if_lt 41 dX6_chance_31 (by decide) (fun h => absurd h (nI_pos (by omega))) (fun h31 => ?_)
      refine go_iload dX6_chance_34 rfl ?_
      refine go_bipush (nI 10) dX6_chance_36 (by decide +kernel) ?_
      refine go_icmp_le 45 dX6_chance_38 (by decide) (fun h38 => ?_) (fun h => absurd (nI_le (by omega) (by omega)) h)
      refine go_aload_n dX6_chance_45 rfl ?_
      refine go_getc dX6_chance_46 fX6_19 rfl (by decide) (by decide) (by decide) rfl ?_
      refine go_iload_n dX6_chance_49 rfl ?_
      refine go_iload_n dX6_chance_50 rfl ?_
      refine go_callV1 (K' := kX5_knows) [_, _] dX6_chance_51 mX6_139 lX5_knows rfl (by decide) rfl (by decide) rfl rfl (Nat.le_of_ble_eq_true rfl) (Nat.le_of_ble_eq_true rfl) (c_knows_3 (by omega) (by omega) hk ((sk n (by omega)).trans ek)) ?_
      refine go_if_eq 59 dX6_chance_54 (by decide) (fun h54 => ?_) (fun h => absurd (bI_0.mpr hkp) h)
      refine go_bipush (nI 10) dX6_chance_59 (by decide +kernel) ?_
      refine go_iload dX6_chance_61 rfl ?_
      refine go_isub dX6_chance_63 (pk_sub (by omega)) ?_
      refine go_aload_n dX6_chance_64 rfl ?_
      refine go_iload_n dX6_chance_65 rfl ?_
      refine go_iload_n dX6_chance_66 rfl ?_
      refine go_iload_n dX6_chance_67 rfl ?_
      refine go_callV1 (K' := kX6_hoursOfHearing) [_, _, _] dX6_chance_68 mX6_230 lX6_hoursOfHearing rfl (by decide) rfl (by decide) rfl rfl (Nat.le_of_ble_eq_true rfl) (Nat.le_of_ble_eq_true rfl) (ch) ?_
      refine go_iload dX6_chance_71 rfl ?_
      refine go_callS1 (K' := kX6_fraction) [_, _, _] dX6_chance_73 mX6_233 lX6_fraction rfl rfl (Nat.le_of_ble_eq_true rfl) (Nat.le_of_ble_eq_true rfl) (cf) ?_
      refine go_i2l dX6_chance_76 (nI_l bb) ?_
      exact go_lret dX6_chance_77 rfl rfl rfl
    · show Go O (d + 40) kX7_chance _ _ 0 [.ref 46, .int (nI n), .int (nI p), .int (nI a), .int (nI x), .int (bI up), .null, .null, .null, .null, .null, .null] [] m
      refine go_aload_n dX7_chance_0 rfl ?_
      refine go_iconst (nI 0) dX7_chance_1 (by decide +kernel) ?_
      refine go_puti dX7_chance_2 fX7_77 rfl (by decide) (by decide) (by decide) rfl (fun _ _ _ h => by cases h; rfl) (Or.inl rfl) ?_
      refine go_aload_n dX7_chance_5 rfl ?_
      refine go_iload_n dX7_chance_6 rfl ?_
      refine go_callV1 (K' := kX7_noNews) [_] dX7_chance_7 mX7_155 lX7_noNews rfl (by decide) rfl (by decide) rfl rfl (Nat.le_of_ble_eq_true rfl) (Nat.le_of_ble_eq_true rfl) (c_noNews hN (by omega)) ?_
      refine go_if_ne 33 dX7_chance_10 (by decide) (fun h => absurd h (fun q => q (bI_0.mpr (by rw [hin]; rfl)))) (fun h10 => ?_)
      refine go_aload_n dX7_chance_13 rfl ?_
      refine go_iload_n dX7_chance_14 rfl ?_
      refine go_callV1 (K' := kX7_noOne) [_] dX7_chance_15 mX7_150 lX7_noOne rfl (by decide) rfl (by decide) rfl rfl (Nat.le_of_ble_eq_true rfl) (Nat.le_of_ble_eq_true rfl) (c_noOne hP hP6) ?_
      refine go_if_ne 33 dX7_chance_18 (by decide) (fun h => absurd h (fun q => q (bI_0.mpr (by rw [hip]; rfl)))) (fun h18 => ?_)
      refine go_iload_n dX7_chance_21 rfl ?_
      refine go_i2l dX7_chance_22 rfl ?_
      refine go_lconst 0 dX7_chance_23 (by decide +kernel) ?_
      refine go_ldc2 kcX7_211 dX7_chance_24 ?_
      refine go_callS1 (K' := kX7_in) [_, _, _] dX7_chance_27 mX7_84 lX7_in rfl rfl (Nat.le_of_ble_eq_true rfl) (Nat.le_of_ble_eq_true rfl) (c_in) ?_
      refine go_if_ne 37 dX7_chance_30 (by decide) (fun h30 => ?_) (fun h => absurd h (bI_n0.mpr ((in_2 _).trans hia)))
      refine go_iload dX7_chance_37 rfl ?_
      refine go_i2l dX7_chance_39 rfl ?_
      refine go_lconst 0 dX7_chance_40 (by decide +kernel) ?_
      refine go_ldc2 kcX7_215 dX7_chance_41 ?_
      refine go_callS1 (K' := kX7_in) [_, _, _] dX7_chance_44 mX7_84 lX7_in rfl rfl (Nat.le_of_ble_eq_true rfl) (Nat.le_of_ble_eq_true rfl) (c_in) ?_
      refine go_if_ne 54 dX7_chance_47 (by decide) (fun h47 => ?_) (fun h => absurd h (bI_n0.mpr ((in_10 _).trans hix)))
      refine go_aload_n dX7_chance_54 rfl ?_
      refine go_getc dX7_chance_55 fX7_25 rfl (by decide) (by decide) (by decide) rfl ?_
      refine go_iconst (nI 3) dX7_chance_58 (by decide +kernel) ?_
      refine go_iload_n dX7_chance_59 rfl ?_
      first | refine go_iadd_n dX7_chance_60 ?_ | refine go_iadd dX7_chance_60 rfl ?_
      refine go_iald dX7_chance_61 rfl (by decide) rfl (by omega) (by decide) ek ?_
      refine go_iload_n dX7_chance_62 rfl ?_
      refine go_callS1 (K' := kX7_has) [_, _] dX7_chance_63 mX7_109 lX7_has rfl rfl (Nat.le_of_ble_eq_true rfl) (Nat.le_of_ble_eq_true rfl) (c_has (by omega) (by omega)) ?_
      refine go_if_eq 71 dX7_chance_66 (by decide) (fun h66 => ?_) (fun h => absurd (bI_0.mpr hkp) h)
      exact cm
theorem op_chance_35 {O : gOm} {d : Nat} {m : gMem} {n p a x : Int32} {up : Bool} (h0 : Inv m) (hT : m.2 0 = 35) : OpL O (d + 40) kX6_chance kX7_chance [.int n, .int p, .int a, .int x, .int (bI up)] m := by
  have hthr := h0.thr
  have hin0 := h0
  obtain ⟨P, N, lw, hr, aa, c, L, lim, h1, h2, h3, h4, h5, h6, h7, h8⟩ := h0
  obtain ⟨hP, hP6, hN, hN3, hlw, hl3, hw, hlim, hfs⟩ := id h2
  obtain ⟨t5, t6, t7, tp, tg, tn⟩ : IvT m 35 P N lw := hT ▸ h3
  obtain ⟨⟨s4, sk, st, sa, spl⟩, h11, ok1, ok2, ok3, ok4, ok5⟩ := id h4
  cases hin : iR n N with
  | false =>
    refine ⟨(-1), m, gup m 46 0 (nI 0), ?_, ?_, hthr⟩
    · show Go O (d + 40) kX6_chance _ _ 0 [.ref 0, .int n, .int p, .int a, .int x, .int (bI up)] [] m
      refine go_aload_n dX6_chance_0 rfl ?_
      refine go_iload_n dX6_chance_1 rfl ?_
      refine go_callV1 (K' := kX6_isNews) [_] dX6_chance_2 mX6_116 lX6_isNews rfl (by decide) rfl (by decide) rfl rfl (Nat.le_of_ble_eq_true rfl) (Nat.le_of_ble_eq_true rfl) (c_isNews_35 hT t6 (by omega)) ?_
      refine go_if_eq 25 dX6_chance_5 (by decide) (fun h5 => ?_) (fun h => absurd (bI_0.mpr hin) h)
      refine go_ldc2 kcX6_226 dX6_chance_25 ?_
      exact go_lret dX6_chance_28 rfl rfl rfl
    · show Go O (d + 40) kX7_chance _ _ 0 [.ref 46, .int n, .int p, .int a, .int x, .int (bI up), .null, .null, .null, .null, .null, .null] [] m
      refine go_aload_n dX7_chance_0 rfl ?_
      refine go_iconst (nI 0) dX7_chance_1 (by decide +kernel) ?_
      refine go_puti dX7_chance_2 fX7_77 rfl (by decide) (by decide) (by decide) rfl (fun _ _ _ h => by cases h; rfl) (Or.inl rfl) ?_
      refine go_aload_n dX7_chance_5 rfl ?_
      refine go_iload_n dX7_chance_6 rfl ?_
      refine go_callV1 (K' := kX7_noNews) [_] dX7_chance_7 mX7_155 lX7_noNews rfl (by decide) rfl (by decide) rfl rfl (Nat.le_of_ble_eq_true rfl) (Nat.le_of_ble_eq_true rfl) (c_noNews hN (by omega)) ?_
      refine go_if_ne 33 dX7_chance_10 (by decide) (fun h10 => ?_) (fun h => absurd h (bI_n0.mpr (by rw [hin]; rfl)))
      refine go_ldc2 kcX7_213 dX7_chance_33 ?_
      exact go_lret dX7_chance_36 rfl rfl rfl
  | true =>
  cases hip : iR p P with
  | false =>
    refine ⟨(-1), m, gup m 46 0 (nI 0), ?_, ?_, hthr⟩
    · show Go O (d + 40) kX6_chance _ _ 0 [.ref 0, .int n, .int p, .int a, .int x, .int (bI up)] [] m
      refine go_aload_n dX6_chance_0 rfl ?_
      refine go_iload_n dX6_chance_1 rfl ?_
      refine go_callV1 (K' := kX6_isNews) [_] dX6_chance_2 mX6_116 lX6_isNews rfl (by decide) rfl (by decide) rfl rfl (Nat.le_of_ble_eq_true rfl) (Nat.le_of_ble_eq_true rfl) (c_isNews_35 hT t6 (by omega)) ?_
      refine go_if_eq 25 dX6_chance_5 (by decide) (fun h => absurd h (bI_n0.mpr hin)) (fun h5 => ?_)
      refine go_aload_n dX6_chance_8 rfl ?_
      refine go_iload_n dX6_chance_9 rfl ?_
      refine go_callV1 (K' := kX6_isPerson) [_] dX6_chance_10 mX6_105 lX6_isPerson rfl (by decide) rfl (by decide) rfl rfl (Nat.le_of_ble_eq_true rfl) (Nat.le_of_ble_eq_true rfl) (c_isPerson_35 hT t5 hP6) ?_
      refine go_if_eq 25 dX6_chance_13 (by decide) (fun h13 => ?_) (fun h => absurd (bI_0.mpr hip) h)
      refine go_ldc2 kcX6_226 dX6_chance_25 ?_
      exact go_lret dX6_chance_28 rfl rfl rfl
    · show Go O (d + 40) kX7_chance _ _ 0 [.ref 46, .int n, .int p, .int a, .int x, .int (bI up), .null, .null, .null, .null, .null, .null] [] m
      refine go_aload_n dX7_chance_0 rfl ?_
      refine go_iconst (nI 0) dX7_chance_1 (by decide +kernel) ?_
      refine go_puti dX7_chance_2 fX7_77 rfl (by decide) (by decide) (by decide) rfl (fun _ _ _ h => by cases h; rfl) (Or.inl rfl) ?_
      refine go_aload_n dX7_chance_5 rfl ?_
      refine go_iload_n dX7_chance_6 rfl ?_
      refine go_callV1 (K' := kX7_noNews) [_] dX7_chance_7 mX7_155 lX7_noNews rfl (by decide) rfl (by decide) rfl rfl (Nat.le_of_ble_eq_true rfl) (Nat.le_of_ble_eq_true rfl) (c_noNews hN (by omega)) ?_
      refine go_if_ne 33 dX7_chance_10 (by decide) (fun h => absurd h (fun q => q (bI_0.mpr (by rw [hin]; rfl)))) (fun h10 => ?_)
      refine go_aload_n dX7_chance_13 rfl ?_
      refine go_iload_n dX7_chance_14 rfl ?_
      refine go_callV1 (K' := kX7_noOne) [_] dX7_chance_15 mX7_150 lX7_noOne rfl (by decide) rfl (by decide) rfl rfl (Nat.le_of_ble_eq_true rfl) (Nat.le_of_ble_eq_true rfl) (c_noOne hP hP6) ?_
      refine go_if_ne 33 dX7_chance_18 (by decide) (fun h18 => ?_) (fun h => absurd h (bI_n0.mpr (by rw [hip]; rfl)))
      refine go_ldc2 kcX7_213 dX7_chance_33 ?_
      exact go_lret dX7_chance_36 rfl rfl rfl
  | true =>
  cases hia : iR a 3 with
  | false =>
    by_cases z : a < 0
    · show OpL O (d + 40) kX6_chance kX7_chance [.int n, .int p, .int a, .int x, .int (bI up)] m
      refine ⟨(-1), m, gup m 46 0 (nI 0), ?_, ?_, hthr⟩
      · show Go O (d + 40) kX6_chance _ _ 0 [.ref 0, .int n, .int p, .int a, .int x, .int (bI up)] [] m
        refine go_aload_n dX6_chance_0 rfl ?_
        refine go_iload_n dX6_chance_1 rfl ?_
        refine go_callV1 (K' := kX6_isNews) [_] dX6_chance_2 mX6_116 lX6_isNews rfl (by decide) rfl (by decide) rfl rfl (Nat.le_of_ble_eq_true rfl) (Nat.le_of_ble_eq_true rfl) (c_isNews_35 hT t6 (by omega)) ?_
        refine go_if_eq 25 dX6_chance_5 (by decide) (fun h => absurd h (bI_n0.mpr hin)) (fun h5 => ?_)
        refine go_aload_n dX6_chance_8 rfl ?_
        refine go_iload_n dX6_chance_9 rfl ?_
        refine go_callV1 (K' := kX6_isPerson) [_] dX6_chance_10 mX6_105 lX6_isPerson rfl (by decide) rfl (by decide) rfl rfl (Nat.le_of_ble_eq_true rfl) (Nat.le_of_ble_eq_true rfl) (c_isPerson_35 hT t5 hP6) ?_
        refine go_if_eq 25 dX6_chance_13 (by decide) (fun h => absurd h (bI_n0.mpr hip)) (fun h13 => ?_)
        refine go_iload_n dX6_chance_16 rfl ?_
        refine go_if_lt 25 dX6_chance_17 (by decide) (fun h17 => ?_) (fun h => absurd (z) h)
        refine go_ldc2 kcX6_226 dX6_chance_25 ?_
        exact go_lret dX6_chance_28 rfl rfl rfl
      · show Go O (d + 40) kX7_chance _ _ 0 [.ref 46, .int n, .int p, .int a, .int x, .int (bI up), .null, .null, .null, .null, .null, .null] [] m
        refine go_aload_n dX7_chance_0 rfl ?_
        refine go_iconst (nI 0) dX7_chance_1 (by decide +kernel) ?_
        refine go_puti dX7_chance_2 fX7_77 rfl (by decide) (by decide) (by decide) rfl (fun _ _ _ h => by cases h; rfl) (Or.inl rfl) ?_
        refine go_aload_n dX7_chance_5 rfl ?_
        refine go_iload_n dX7_chance_6 rfl ?_
        refine go_callV1 (K' := kX7_noNews) [_] dX7_chance_7 mX7_155 lX7_noNews rfl (by decide) rfl (by decide) rfl rfl (Nat.le_of_ble_eq_true rfl) (Nat.le_of_ble_eq_true rfl) (c_noNews hN (by omega)) ?_
        refine go_if_ne 33 dX7_chance_10 (by decide) (fun h => absurd h (fun q => q (bI_0.mpr (by rw [hin]; rfl)))) (fun h10 => ?_)
        refine go_aload_n dX7_chance_13 rfl ?_
        refine go_iload_n dX7_chance_14 rfl ?_
        refine go_callV1 (K' := kX7_noOne) [_] dX7_chance_15 mX7_150 lX7_noOne rfl (by decide) rfl (by decide) rfl rfl (Nat.le_of_ble_eq_true rfl) (Nat.le_of_ble_eq_true rfl) (c_noOne hP hP6) ?_
        refine go_if_ne 33 dX7_chance_18 (by decide) (fun h => absurd h (fun q => q (bI_0.mpr (by rw [hip]; rfl)))) (fun h18 => ?_)
        refine go_iload_n dX7_chance_21 rfl ?_
        refine go_i2l dX7_chance_22 rfl ?_
        refine go_lconst 0 dX7_chance_23 (by decide +kernel) ?_
        refine go_ldc2 kcX7_211 dX7_chance_24 ?_
        refine go_callS1 (K' := kX7_in) [_, _, _] dX7_chance_27 mX7_84 lX7_in rfl rfl (Nat.le_of_ble_eq_true rfl) (Nat.le_of_ble_eq_true rfl) (c_in) ?_
        refine go_if_ne 37 dX7_chance_30 (by decide) (fun h => absurd h (fun q => q (bI_0.mpr ((in_2 a).trans hia)))) (fun h30 => ?_)
        refine go_ldc2 kcX7_213 dX7_chance_33 ?_
        exact go_lret dX7_chance_36 rfl rfl rfl
    · have z2 : ¬ a < nI 3 := fun q => by
        have := iR_mid (x := a) (n := 3) (by omega) z (by rw [Int32.not_le]; exact q)
        rw [hia] at this
        cases this
      refine ⟨(-1), m, gup m 46 0 (nI 0), ?_, ?_, hthr⟩
      · show Go O (d + 40) kX6_chance _ _ 0 [.ref 0, .int n, .int p, .int a, .int x, .int (bI up)] [] m
        refine go_aload_n dX6_chance_0 rfl ?_
        refine go_iload_n dX6_chance_1 rfl ?_
        refine go_callV1 (K' := kX6_isNews) [_] dX6_chance_2 mX6_116 lX6_isNews rfl (by decide) rfl (by decide) rfl rfl (Nat.le_of_ble_eq_true rfl) (Nat.le_of_ble_eq_true rfl) (c_isNews_35 hT t6 (by omega)) ?_
        refine go_if_eq 25 dX6_chance_5 (by decide) (fun h => absurd h (bI_n0.mpr hin)) (fun h5 => ?_)
        refine go_aload_n dX6_chance_8 rfl ?_
        refine go_iload_n dX6_chance_9 rfl ?_
        refine go_callV1 (K' := kX6_isPerson) [_] dX6_chance_10 mX6_105 lX6_isPerson rfl (by decide) rfl (by decide) rfl rfl (Nat.le_of_ble_eq_true rfl) (Nat.le_of_ble_eq_true rfl) (c_isPerson_35 hT t5 hP6) ?_
        refine go_if_eq 25 dX6_chance_13 (by decide) (fun h => absurd h (bI_n0.mpr hip)) (fun h13 => ?_)
        refine go_iload_n dX6_chance_16 rfl ?_
        refine go_if_lt 25 dX6_chance_17 (by decide) (fun h => absurd h (z)) (fun h17 => ?_)
        refine go_iload_n dX6_chance_20 rfl ?_
        refine go_iconst (nI 3) dX6_chance_21 (by decide +kernel) ?_
        refine go_icmp_lt 29 dX6_chance_22 (by decide) (fun h => absurd h (z2)) (fun h22 => ?_)
        refine go_ldc2 kcX6_226 dX6_chance_25 ?_
        exact go_lret dX6_chance_28 rfl rfl rfl
      · show Go O (d + 40) kX7_chance _ _ 0 [.ref 46, .int n, .int p, .int a, .int x, .int (bI up), .null, .null, .null, .null, .null, .null] [] m
        refine go_aload_n dX7_chance_0 rfl ?_
        refine go_iconst (nI 0) dX7_chance_1 (by decide +kernel) ?_
        refine go_puti dX7_chance_2 fX7_77 rfl (by decide) (by decide) (by decide) rfl (fun _ _ _ h => by cases h; rfl) (Or.inl rfl) ?_
        refine go_aload_n dX7_chance_5 rfl ?_
        refine go_iload_n dX7_chance_6 rfl ?_
        refine go_callV1 (K' := kX7_noNews) [_] dX7_chance_7 mX7_155 lX7_noNews rfl (by decide) rfl (by decide) rfl rfl (Nat.le_of_ble_eq_true rfl) (Nat.le_of_ble_eq_true rfl) (c_noNews hN (by omega)) ?_
        refine go_if_ne 33 dX7_chance_10 (by decide) (fun h => absurd h (fun q => q (bI_0.mpr (by rw [hin]; rfl)))) (fun h10 => ?_)
        refine go_aload_n dX7_chance_13 rfl ?_
        refine go_iload_n dX7_chance_14 rfl ?_
        refine go_callV1 (K' := kX7_noOne) [_] dX7_chance_15 mX7_150 lX7_noOne rfl (by decide) rfl (by decide) rfl rfl (Nat.le_of_ble_eq_true rfl) (Nat.le_of_ble_eq_true rfl) (c_noOne hP hP6) ?_
        refine go_if_ne 33 dX7_chance_18 (by decide) (fun h => absurd h (fun q => q (bI_0.mpr (by rw [hip]; rfl)))) (fun h18 => ?_)
        refine go_iload_n dX7_chance_21 rfl ?_
        refine go_i2l dX7_chance_22 rfl ?_
        refine go_lconst 0 dX7_chance_23 (by decide +kernel) ?_
        refine go_ldc2 kcX7_211 dX7_chance_24 ?_
        refine go_callS1 (K' := kX7_in) [_, _, _] dX7_chance_27 mX7_84 lX7_in rfl rfl (Nat.le_of_ble_eq_true rfl) (Nat.le_of_ble_eq_true rfl) (c_in) ?_
        refine go_if_ne 37 dX7_chance_30 (by decide) (fun h => absurd h (fun q => q (bI_0.mpr ((in_2 a).trans hia)))) (fun h30 => ?_)
        refine go_ldc2 kcX7_213 dX7_chance_33 ?_
        exact go_lret dX7_chance_36 rfl rfl rfl
  | true =>
  obtain ⟨a, ha3, rfl⟩ := iR_of hia
  cases hix : iR x 11 with
  | false =>
    by_cases z : x < 0
    · show OpL O (d + 40) kX6_chance kX7_chance [.int n, .int p, .int (nI a), .int x, .int (bI up)] m
      refine ⟨(-2), m, gup m 46 0 (nI 0), ?_, ?_, hthr⟩
      · show Go O (d + 40) kX6_chance _ _ 0 [.ref 0, .int n, .int p, .int (nI a), .int x, .int (bI up)] [] m
        refine go_aload_n dX6_chance_0 rfl ?_
        refine go_iload_n dX6_chance_1 rfl ?_
        refine go_callV1 (K' := kX6_isNews) [_] dX6_chance_2 mX6_116 lX6_isNews rfl (by decide) rfl (by decide) rfl rfl (Nat.le_of_ble_eq_true rfl) (Nat.le_of_ble_eq_true rfl) (c_isNews_35 hT t6 (by omega)) ?_
        refine go_if_eq 25 dX6_chance_5 (by decide) (fun h => absurd h (bI_n0.mpr hin)) (fun h5 => ?_)
        refine go_aload_n dX6_chance_8 rfl ?_
        refine go_iload_n dX6_chance_9 rfl ?_
        refine go_callV1 (K' := kX6_isPerson) [_] dX6_chance_10 mX6_105 lX6_isPerson rfl (by decide) rfl (by decide) rfl rfl (Nat.le_of_ble_eq_true rfl) (Nat.le_of_ble_eq_true rfl) (c_isPerson_35 hT t5 hP6) ?_
        refine go_if_eq 25 dX6_chance_13 (by decide) (fun h => absurd h (bI_n0.mpr hip)) (fun h13 => ?_)
        refine go_iload_n dX6_chance_16 rfl ?_
        refine go_if_lt 25 dX6_chance_17 (by decide) (fun h => absurd h (nI_pos (by omega))) (fun h17 => ?_)
        refine go_iload_n dX6_chance_20 rfl ?_
        refine go_iconst (nI 3) dX6_chance_21 (by decide +kernel) ?_
        refine go_icmp_lt 29 dX6_chance_22 (by decide) (fun h22 => ?_) (fun h => absurd (nI_lt (by omega) (by omega)) h)
        refine go_iload dX6_chance_29 rfl ?_
        refine go_if_lt 41 dX6_chance_31 (by decide) (fun h31 => ?_) (fun h => absurd (z) h)
        refine go_ldc2 kcX6_228 dX6_chance_41 ?_
        exact go_lret dX6_chance_44 rfl rfl rfl
      · show Go O (d + 40) kX7_chance _ _ 0 [.ref 46, .int n, .int p, .int (nI a), .int x, .int (bI up), .null, .null, .null, .null, .null, .null] [] m
        refine go_aload_n dX7_chance_0 rfl ?_
        refine go_iconst (nI 0) dX7_chance_1 (by decide +kernel) ?_
        refine go_puti dX7_chance_2 fX7_77 rfl (by decide) (by decide) (by decide) rfl (fun _ _ _ h => by cases h; rfl) (Or.inl rfl) ?_
        refine go_aload_n dX7_chance_5 rfl ?_
        refine go_iload_n dX7_chance_6 rfl ?_
        refine go_callV1 (K' := kX7_noNews) [_] dX7_chance_7 mX7_155 lX7_noNews rfl (by decide) rfl (by decide) rfl rfl (Nat.le_of_ble_eq_true rfl) (Nat.le_of_ble_eq_true rfl) (c_noNews hN (by omega)) ?_
        refine go_if_ne 33 dX7_chance_10 (by decide) (fun h => absurd h (fun q => q (bI_0.mpr (by rw [hin]; rfl)))) (fun h10 => ?_)
        refine go_aload_n dX7_chance_13 rfl ?_
        refine go_iload_n dX7_chance_14 rfl ?_
        refine go_callV1 (K' := kX7_noOne) [_] dX7_chance_15 mX7_150 lX7_noOne rfl (by decide) rfl (by decide) rfl rfl (Nat.le_of_ble_eq_true rfl) (Nat.le_of_ble_eq_true rfl) (c_noOne hP hP6) ?_
        refine go_if_ne 33 dX7_chance_18 (by decide) (fun h => absurd h (fun q => q (bI_0.mpr (by rw [hip]; rfl)))) (fun h18 => ?_)
        refine go_iload_n dX7_chance_21 rfl ?_
        refine go_i2l dX7_chance_22 rfl ?_
        refine go_lconst 0 dX7_chance_23 (by decide +kernel) ?_
        refine go_ldc2 kcX7_211 dX7_chance_24 ?_
        refine go_callS1 (K' := kX7_in) [_, _, _] dX7_chance_27 mX7_84 lX7_in rfl rfl (Nat.le_of_ble_eq_true rfl) (Nat.le_of_ble_eq_true rfl) (c_in) ?_
        refine go_if_ne 37 dX7_chance_30 (by decide) (fun h30 => ?_) (fun h => absurd h (bI_n0.mpr ((in_2 _).trans hia)))
        refine go_iload dX7_chance_37 rfl ?_
        refine go_i2l dX7_chance_39 rfl ?_
        refine go_lconst 0 dX7_chance_40 (by decide +kernel) ?_
        refine go_ldc2 kcX7_215 dX7_chance_41 ?_
        refine go_callS1 (K' := kX7_in) [_, _, _] dX7_chance_44 mX7_84 lX7_in rfl rfl (Nat.le_of_ble_eq_true rfl) (Nat.le_of_ble_eq_true rfl) (c_in) ?_
        refine go_if_ne 54 dX7_chance_47 (by decide) (fun h => absurd h (fun q => q (bI_0.mpr ((in_10 x).trans hix)))) (fun h47 => ?_)
        refine go_ldc2 kcX7_217 dX7_chance_50 ?_
        exact go_lret dX7_chance_53 rfl rfl rfl
    · have z2 : ¬ x ≤ nI 10 := fun q => by
        have := iR_ng (x := x) (n := 10) (by omega) z (Int32.not_lt.mpr q)
        rw [hix] at this
        cases this
      refine ⟨(-2), m, gup m 46 0 (nI 0), ?_, ?_, hthr⟩
      · show Go O (d + 40) kX6_chance _ _ 0 [.ref 0, .int n, .int p, .int (nI a), .int x, .int (bI up)] [] m
        refine go_aload_n dX6_chance_0 rfl ?_
        refine go_iload_n dX6_chance_1 rfl ?_
        refine go_callV1 (K' := kX6_isNews) [_] dX6_chance_2 mX6_116 lX6_isNews rfl (by decide) rfl (by decide) rfl rfl (Nat.le_of_ble_eq_true rfl) (Nat.le_of_ble_eq_true rfl) (c_isNews_35 hT t6 (by omega)) ?_
        refine go_if_eq 25 dX6_chance_5 (by decide) (fun h => absurd h (bI_n0.mpr hin)) (fun h5 => ?_)
        refine go_aload_n dX6_chance_8 rfl ?_
        refine go_iload_n dX6_chance_9 rfl ?_
        refine go_callV1 (K' := kX6_isPerson) [_] dX6_chance_10 mX6_105 lX6_isPerson rfl (by decide) rfl (by decide) rfl rfl (Nat.le_of_ble_eq_true rfl) (Nat.le_of_ble_eq_true rfl) (c_isPerson_35 hT t5 hP6) ?_
        refine go_if_eq 25 dX6_chance_13 (by decide) (fun h => absurd h (bI_n0.mpr hip)) (fun h13 => ?_)
        refine go_iload_n dX6_chance_16 rfl ?_
        refine go_if_lt 25 dX6_chance_17 (by decide) (fun h => absurd h (nI_pos (by omega))) (fun h17 => ?_)
        refine go_iload_n dX6_chance_20 rfl ?_
        refine go_iconst (nI 3) dX6_chance_21 (by decide +kernel) ?_
        refine go_icmp_lt 29 dX6_chance_22 (by decide) (fun h22 => ?_) (fun h => absurd (nI_lt (by omega) (by omega)) h)
        refine go_iload dX6_chance_29 rfl ?_
        refine go_if_lt 41 dX6_chance_31 (by decide) (fun h => absurd h (z)) (fun h31 => ?_)
        refine go_iload dX6_chance_34 rfl ?_
        refine go_bipush (nI 10) dX6_chance_36 (by decide +kernel) ?_
        refine go_icmp_le 45 dX6_chance_38 (by decide) (fun h => absurd h (z2)) (fun h38 => ?_)
        refine go_ldc2 kcX6_228 dX6_chance_41 ?_
        exact go_lret dX6_chance_44 rfl rfl rfl
      · show Go O (d + 40) kX7_chance _ _ 0 [.ref 46, .int n, .int p, .int (nI a), .int x, .int (bI up), .null, .null, .null, .null, .null, .null] [] m
        refine go_aload_n dX7_chance_0 rfl ?_
        refine go_iconst (nI 0) dX7_chance_1 (by decide +kernel) ?_
        refine go_puti dX7_chance_2 fX7_77 rfl (by decide) (by decide) (by decide) rfl (fun _ _ _ h => by cases h; rfl) (Or.inl rfl) ?_
        refine go_aload_n dX7_chance_5 rfl ?_
        refine go_iload_n dX7_chance_6 rfl ?_
        refine go_callV1 (K' := kX7_noNews) [_] dX7_chance_7 mX7_155 lX7_noNews rfl (by decide) rfl (by decide) rfl rfl (Nat.le_of_ble_eq_true rfl) (Nat.le_of_ble_eq_true rfl) (c_noNews hN (by omega)) ?_
        refine go_if_ne 33 dX7_chance_10 (by decide) (fun h => absurd h (fun q => q (bI_0.mpr (by rw [hin]; rfl)))) (fun h10 => ?_)
        refine go_aload_n dX7_chance_13 rfl ?_
        refine go_iload_n dX7_chance_14 rfl ?_
        refine go_callV1 (K' := kX7_noOne) [_] dX7_chance_15 mX7_150 lX7_noOne rfl (by decide) rfl (by decide) rfl rfl (Nat.le_of_ble_eq_true rfl) (Nat.le_of_ble_eq_true rfl) (c_noOne hP hP6) ?_
        refine go_if_ne 33 dX7_chance_18 (by decide) (fun h => absurd h (fun q => q (bI_0.mpr (by rw [hip]; rfl)))) (fun h18 => ?_)
        refine go_iload_n dX7_chance_21 rfl ?_
        refine go_i2l dX7_chance_22 rfl ?_
        refine go_lconst 0 dX7_chance_23 (by decide +kernel) ?_
        refine go_ldc2 kcX7_211 dX7_chance_24 ?_
        refine go_callS1 (K' := kX7_in) [_, _, _] dX7_chance_27 mX7_84 lX7_in rfl rfl (Nat.le_of_ble_eq_true rfl) (Nat.le_of_ble_eq_true rfl) (c_in) ?_
        refine go_if_ne 37 dX7_chance_30 (by decide) (fun h30 => ?_) (fun h => absurd h (bI_n0.mpr ((in_2 _).trans hia)))
        refine go_iload dX7_chance_37 rfl ?_
        refine go_i2l dX7_chance_39 rfl ?_
        refine go_lconst 0 dX7_chance_40 (by decide +kernel) ?_
        refine go_ldc2 kcX7_215 dX7_chance_41 ?_
        refine go_callS1 (K' := kX7_in) [_, _, _] dX7_chance_44 mX7_84 lX7_in rfl rfl (Nat.le_of_ble_eq_true rfl) (Nat.le_of_ble_eq_true rfl) (c_in) ?_
        refine go_if_ne 54 dX7_chance_47 (by decide) (fun h => absurd h (fun q => q (bI_0.mpr ((in_10 x).trans hix)))) (fun h47 => ?_)
        refine go_ldc2 kcX7_217 dX7_chance_50 ?_
        exact go_lret dX7_chance_53 rfl rfl rfl
  | true =>
  obtain ⟨x, hx11, rfl⟩ := iR_of hix
  obtain ⟨n, hnN, rfl⟩ := iR_of hin
  obtain ⟨p, hpP, rfl⟩ := iR_of hip
  obtain ⟨k, hk, ek⟩ := ok2 n (by omega)
  cases hkp : k.testBit p with
  | true =>
    refine ⟨1, m, gup m 46 0 (nI 0), ?_, ?_, hthr⟩
    · show Go O (d + 40) kX6_chance _ _ 0 [.ref 0, .int (nI n), .int (nI p), .int (nI a), .int (nI x), .int (bI up)] [] m
      refine go_aload_n dX6_chance_0 rfl ?_
      refine go_iload_n dX6_chance_1 rfl ?_
      refine go_callV1 (K' := kX6_isNews) [_] dX6_chance_2 mX6_116 lX6_isNews rfl (by decide) rfl (by decide) rfl rfl (Nat.le_of_ble_eq_true rfl) (Nat.le_of_ble_eq_true rfl) (c_isNews_35 hT t6 (by omega)) ?_
      refine go_if_eq 25 dX6_chance_5 (by decide) (fun h => absurd h (bI_n0.mpr hin)) (fun h5 => ?_)
      refine go_aload_n dX6_chance_8 rfl ?_
      refine go_iload_n dX6_chance_9 rfl ?_
      refine go_callV1 (K' := kX6_isPerson) [_] dX6_chance_10 mX6_105 lX6_isPerson rfl (by decide) rfl (by decide) rfl rfl (Nat.le_of_ble_eq_true rfl) (Nat.le_of_ble_eq_true rfl) (c_isPerson_35 hT t5 hP6) ?_
      refine go_if_eq 25 dX6_chance_13 (by decide) (fun h => absurd h (bI_n0.mpr hip)) (fun h13 => ?_)
      refine go_iload_n dX6_chance_16 rfl ?_
      refine go_if_lt 25 dX6_chance_17 (by decide) (fun h => absurd h (nI_pos (by omega))) (fun h17 => ?_)
      refine go_iload_n dX6_chance_20 rfl ?_
      refine go_iconst (nI 3) dX6_chance_21 (by decide +kernel) ?_
      refine go_icmp_lt 29 dX6_chance_22 (by decide) (fun h22 => ?_) (fun h => absurd (nI_lt (by omega) (by omega)) h)
      refine go_iload dX6_chance_29 rfl ?_
      refine go_if_lt 41 dX6_chance_31 (by decide) (fun h => absurd h (nI_pos (by omega))) (fun h31 => ?_)
      refine go_iload dX6_chance_34 rfl ?_
      refine go_bipush (nI 10) dX6_chance_36 (by decide +kernel) ?_
      refine go_icmp_le 45 dX6_chance_38 (by decide) (fun h38 => ?_) (fun h => absurd (nI_le (by omega) (by omega)) h)
      refine go_aload_n dX6_chance_45 rfl ?_
      refine go_getc dX6_chance_46 fX6_19 rfl (by decide) (by decide) (by decide) rfl ?_
      refine go_iload_n dX6_chance_49 rfl ?_
      refine go_iload_n dX6_chance_50 rfl ?_
      refine go_callV1 (K' := kX5_knows) [_, _] dX6_chance_51 mX6_139 lX5_knows rfl (by decide) rfl (by decide) rfl rfl (Nat.le_of_ble_eq_true rfl) (Nat.le_of_ble_eq_true rfl) (c_knows_3 (by omega) (by omega) hk ((sk n (by omega)).trans ek)) ?_
      refine go_if_eq 59 dX6_chance_54 (by decide) (fun h => absurd h (bI_n0.mpr hkp)) (fun h54 => ?_)
      refine go_lconst 1 dX6_chance_57 (by decide +kernel) ?_
      exact go_lret dX6_chance_58 rfl rfl rfl
    · show Go O (d + 40) kX7_chance _ _ 0 [.ref 46, .int (nI n), .int (nI p), .int (nI a), .int (nI x), .int (bI up), .null, .null, .null, .null, .null, .null] [] m
      refine go_aload_n dX7_chance_0 rfl ?_
      refine go_iconst (nI 0) dX7_chance_1 (by decide +kernel) ?_
      refine go_puti dX7_chance_2 fX7_77 rfl (by decide) (by decide) (by decide) rfl (fun _ _ _ h => by cases h; rfl) (Or.inl rfl) ?_
      refine go_aload_n dX7_chance_5 rfl ?_
      refine go_iload_n dX7_chance_6 rfl ?_
      refine go_callV1 (K' := kX7_noNews) [_] dX7_chance_7 mX7_155 lX7_noNews rfl (by decide) rfl (by decide) rfl rfl (Nat.le_of_ble_eq_true rfl) (Nat.le_of_ble_eq_true rfl) (c_noNews hN (by omega)) ?_
      refine go_if_ne 33 dX7_chance_10 (by decide) (fun h => absurd h (fun q => q (bI_0.mpr (by rw [hin]; rfl)))) (fun h10 => ?_)
      refine go_aload_n dX7_chance_13 rfl ?_
      refine go_iload_n dX7_chance_14 rfl ?_
      refine go_callV1 (K' := kX7_noOne) [_] dX7_chance_15 mX7_150 lX7_noOne rfl (by decide) rfl (by decide) rfl rfl (Nat.le_of_ble_eq_true rfl) (Nat.le_of_ble_eq_true rfl) (c_noOne hP hP6) ?_
      refine go_if_ne 33 dX7_chance_18 (by decide) (fun h => absurd h (fun q => q (bI_0.mpr (by rw [hip]; rfl)))) (fun h18 => ?_)
      refine go_iload_n dX7_chance_21 rfl ?_
      refine go_i2l dX7_chance_22 rfl ?_
      refine go_lconst 0 dX7_chance_23 (by decide +kernel) ?_
      refine go_ldc2 kcX7_211 dX7_chance_24 ?_
      refine go_callS1 (K' := kX7_in) [_, _, _] dX7_chance_27 mX7_84 lX7_in rfl rfl (Nat.le_of_ble_eq_true rfl) (Nat.le_of_ble_eq_true rfl) (c_in) ?_
      refine go_if_ne 37 dX7_chance_30 (by decide) (fun h30 => ?_) (fun h => absurd h (bI_n0.mpr ((in_2 _).trans hia)))
      refine go_iload dX7_chance_37 rfl ?_
      refine go_i2l dX7_chance_39 rfl ?_
      refine go_lconst 0 dX7_chance_40 (by decide +kernel) ?_
      refine go_ldc2 kcX7_215 dX7_chance_41 ?_
      refine go_callS1 (K' := kX7_in) [_, _, _] dX7_chance_44 mX7_84 lX7_in rfl rfl (Nat.le_of_ble_eq_true rfl) (Nat.le_of_ble_eq_true rfl) (c_in) ?_
      refine go_if_ne 54 dX7_chance_47 (by decide) (fun h47 => ?_) (fun h => absurd h (bI_n0.mpr ((in_10 _).trans hix)))
      refine go_aload_n dX7_chance_54 rfl ?_
      refine go_getc dX7_chance_55 fX7_25 rfl (by decide) (by decide) (by decide) rfl ?_
      refine go_iconst (nI 3) dX7_chance_58 (by decide +kernel) ?_
      refine go_iload_n dX7_chance_59 rfl ?_
      first | refine go_iadd_n dX7_chance_60 ?_ | refine go_iadd dX7_chance_60 rfl ?_
      refine go_iald dX7_chance_61 rfl (by decide) rfl (by omega) (by decide) ek ?_
      refine go_iload_n dX7_chance_62 rfl ?_
      refine go_callS1 (K' := kX7_has) [_, _] dX7_chance_63 mX7_109 lX7_has rfl rfl (Nat.le_of_ble_eq_true rfl) (Nat.le_of_ble_eq_true rfl) (c_has (by omega) (by omega)) ?_
      refine go_if_eq 71 dX7_chance_66 (by decide) (fun h => absurd h (bI_n0.mpr hkp)) (fun h66 => ?_)
      refine go_lconst 1 dX7_chance_69 (by decide +kernel) ?_
      exact go_lret dX7_chance_70 rfl rfl rfl
  | false =>
    obtain ⟨C, hC⟩ : ∃ C, hcA (hrB (m.1 48) P k p a) hr (6 - hr) = C := ⟨_, rfl⟩
    have hC6 : C < 7 := by
      have := hcA_le (hrB (m.1 48) P k p a) hr (6 - hr)
      omega
    obtain ⟨b1, b2, b3⟩ := fr_b C hC6 (10 - x) (by omega)
    have ch := c_hearing_35 (O := O) (d := d + 38) (m := m) (w := m.1 48) (hr := hr) (P := P) (k := k) (n := n) (p := p) (a := a) hT hP6 hpP (by omega) ha3 hk hkp ok1 tg tp s4 ((sk n (by omega)).trans ek)
    rw [hC] at ch
    have cf := c_fraction (O := O) (d := d + 38) (m := m) (ms := 10 - x) (c := C) (up := up) (by omega) hC6
    rw [fr_eq C hC6 (10 - x) (by omega)] at cf
    have cm := c_chanceM (O := O) (d := d + 37) (m := gup m 46 0 (nI 0)) (hr := hr) (P := P) (k := k) (n := n) (p := p) (a := a) (x := x) (ms := 10 - x) (C := C) (up := up) hP hP6 hpP (by omega) ha3 hk ok1 hx11 rfl h11 ek hC
    have bb : (if up then (10 ^ C - (10 - x) ^ C) / Nat.gcd (10 ^ C) (10 ^ C - (10 - x) ^ C) else 10 ^ C / Nat.gcd (10 ^ C) (10 ^ C - (10 - x) ^ C)) < 2 ^ 31 := by
      have z1 := Nat.div_le_self (10 ^ C - (10 - x) ^ C) (Nat.gcd (10 ^ C) (10 ^ C - (10 - x) ^ C))
      have z2 := Nat.div_le_self (10 ^ C) (Nat.gcd (10 ^ C) (10 ^ C - (10 - x) ^ C))
      split <;> omega
    refine ⟨(lN (if up then (10 ^ C - (10 - x) ^ C) / Nat.gcd (10 ^ C) (10 ^ C - (10 - x) ^ C) else 10 ^ C / Nat.gcd (10 ^ C) (10 ^ C - (10 - x) ^ C))), m, gup m 46 0 (nI 0), ?_, ?_, hthr⟩
    · show Go O (d + 40) kX6_chance (some (.long (lN (if up then (10 ^ C - (10 - x) ^ C) / Nat.gcd (10 ^ C) (10 ^ C - (10 - x) ^ C) else 10 ^ C / Nat.gcd (10 ^ C) (10 ^ C - (10 - x) ^ C))))) _ 0 [.ref 0, .int (nI n), .int (nI p), .int (nI a), .int (nI x), .int (bI up)] [] m
      refine go_aload_n dX6_chance_0 rfl ?_
      refine go_iload_n dX6_chance_1 rfl ?_
      refine go_callV1 (K' := kX6_isNews) [_] dX6_chance_2 mX6_116 lX6_isNews rfl (by decide) rfl (by decide) rfl rfl (Nat.le_of_ble_eq_true rfl) (Nat.le_of_ble_eq_true rfl) (c_isNews_35 hT t6 (by omega)) ?_
      refine go_if_eq 25 dX6_chance_5 (by decide) (fun h => absurd h (bI_n0.mpr hin)) (fun h5 => ?_)
      refine go_aload_n dX6_chance_8 rfl ?_
      refine go_iload_n dX6_chance_9 rfl ?_
      refine go_callV1 (K' := kX6_isPerson) [_] dX6_chance_10 mX6_105 lX6_isPerson rfl (by decide) rfl (by decide) rfl rfl (Nat.le_of_ble_eq_true rfl) (Nat.le_of_ble_eq_true rfl) (c_isPerson_35 hT t5 hP6) ?_
      refine go_if_eq 25 dX6_chance_13 (by decide) (fun h => absurd h (bI_n0.mpr hip)) (fun h13 => ?_)
      refine go_iload_n dX6_chance_16 rfl ?_
      refine go_if_lt 25 dX6_chance_17 (by decide) (fun h => absurd h (nI_pos (by omega))) (fun h17 => ?_)
      refine go_iload_n dX6_chance_20 rfl ?_
      refine go_iconst (nI 3) dX6_chance_21 (by decide +kernel) ?_
      refine go_icmp_lt 29 dX6_chance_22 (by decide) (fun h22 => ?_) (fun h => absurd (nI_lt (by omega) (by omega)) h)
      refine go_iload dX6_chance_29 rfl ?_
      refine go_if_lt 41 dX6_chance_31 (by decide) (fun h => absurd h (nI_pos (by omega))) (fun h31 => ?_)
      refine go_iload dX6_chance_34 rfl ?_
      refine go_bipush (nI 10) dX6_chance_36 (by decide +kernel) ?_
      refine go_icmp_le 45 dX6_chance_38 (by decide) (fun h38 => ?_) (fun h => absurd (nI_le (by omega) (by omega)) h)
      refine go_aload_n dX6_chance_45 rfl ?_
      refine go_getc dX6_chance_46 fX6_19 rfl (by decide) (by decide) (by decide) rfl ?_
      refine go_iload_n dX6_chance_49 rfl ?_
      refine go_iload_n dX6_chance_50 rfl ?_
      refine go_callV1 (K' := kX5_knows) [_, _] dX6_chance_51 mX6_139 lX5_knows rfl (by decide) rfl (by decide) rfl rfl (Nat.le_of_ble_eq_true rfl) (Nat.le_of_ble_eq_true rfl) (c_knows_3 (by omega) (by omega) hk ((sk n (by omega)).trans ek)) ?_
      refine go_if_eq 59 dX6_chance_54 (by decide) (fun h54 => ?_) (fun h => absurd (bI_0.mpr hkp) h)
      refine go_bipush (nI 10) dX6_chance_59 (by decide +kernel) ?_
      refine go_iload dX6_chance_61 rfl ?_
      refine go_isub dX6_chance_63 (pk_sub (by omega)) ?_
      refine go_aload_n dX6_chance_64 rfl ?_
      refine go_iload_n dX6_chance_65 rfl ?_
      refine go_iload_n dX6_chance_66 rfl ?_
      refine go_iload_n dX6_chance_67 rfl ?_
      refine go_callV1 (K' := kX6_hoursOfHearing) [_, _, _] dX6_chance_68 mX6_230 lX6_hoursOfHearing rfl (by decide) rfl (by decide) rfl rfl (Nat.le_of_ble_eq_true rfl) (Nat.le_of_ble_eq_true rfl) (ch) ?_
      refine go_iload dX6_chance_71 rfl ?_
      refine go_callS1 (K' := kX6_fraction) [_, _, _] dX6_chance_73 mX6_233 lX6_fraction rfl rfl (Nat.le_of_ble_eq_true rfl) (Nat.le_of_ble_eq_true rfl) (cf) ?_
      refine go_i2l dX6_chance_76 (nI_l bb) ?_
      exact go_lret dX6_chance_77 rfl rfl rfl
    · show Go O (d + 40) kX7_chance _ _ 0 [.ref 46, .int (nI n), .int (nI p), .int (nI a), .int (nI x), .int (bI up), .null, .null, .null, .null, .null, .null] [] m
      refine go_aload_n dX7_chance_0 rfl ?_
      refine go_iconst (nI 0) dX7_chance_1 (by decide +kernel) ?_
      refine go_puti dX7_chance_2 fX7_77 rfl (by decide) (by decide) (by decide) rfl (fun _ _ _ h => by cases h; rfl) (Or.inl rfl) ?_
      refine go_aload_n dX7_chance_5 rfl ?_
      refine go_iload_n dX7_chance_6 rfl ?_
      refine go_callV1 (K' := kX7_noNews) [_] dX7_chance_7 mX7_155 lX7_noNews rfl (by decide) rfl (by decide) rfl rfl (Nat.le_of_ble_eq_true rfl) (Nat.le_of_ble_eq_true rfl) (c_noNews hN (by omega)) ?_
      refine go_if_ne 33 dX7_chance_10 (by decide) (fun h => absurd h (fun q => q (bI_0.mpr (by rw [hin]; rfl)))) (fun h10 => ?_)
      refine go_aload_n dX7_chance_13 rfl ?_
      refine go_iload_n dX7_chance_14 rfl ?_
      refine go_callV1 (K' := kX7_noOne) [_] dX7_chance_15 mX7_150 lX7_noOne rfl (by decide) rfl (by decide) rfl rfl (Nat.le_of_ble_eq_true rfl) (Nat.le_of_ble_eq_true rfl) (c_noOne hP hP6) ?_
      refine go_if_ne 33 dX7_chance_18 (by decide) (fun h => absurd h (fun q => q (bI_0.mpr (by rw [hip]; rfl)))) (fun h18 => ?_)
      refine go_iload_n dX7_chance_21 rfl ?_
      refine go_i2l dX7_chance_22 rfl ?_
      refine go_lconst 0 dX7_chance_23 (by decide +kernel) ?_
      refine go_ldc2 kcX7_211 dX7_chance_24 ?_
      refine go_callS1 (K' := kX7_in) [_, _, _] dX7_chance_27 mX7_84 lX7_in rfl rfl (Nat.le_of_ble_eq_true rfl) (Nat.le_of_ble_eq_true rfl) (c_in) ?_
      refine go_if_ne 37 dX7_chance_30 (by decide) (fun h30 => ?_) (fun h => absurd h (bI_n0.mpr ((in_2 _).trans hia)))
      refine go_iload dX7_chance_37 rfl ?_
      refine go_i2l dX7_chance_39 rfl ?_
      refine go_lconst 0 dX7_chance_40 (by decide +kernel) ?_
      refine go_ldc2 kcX7_215 dX7_chance_41 ?_
      refine go_callS1 (K' := kX7_in) [_, _, _] dX7_chance_44 mX7_84 lX7_in rfl rfl (Nat.le_of_ble_eq_true rfl) (Nat.le_of_ble_eq_true rfl) (c_in) ?_
      refine go_if_ne 54 dX7_chance_47 (by decide) (fun h47 => ?_) (fun h => absurd h (bI_n0.mpr ((in_10 _).trans hix)))
      refine go_aload_n dX7_chance_54 rfl ?_
      refine go_getc dX7_chance_55 fX7_25 rfl (by decide) (by decide) (by decide) rfl ?_
      refine go_iconst (nI 3) dX7_chance_58 (by decide +kernel) ?_
      refine go_iload_n dX7_chance_59 rfl ?_
      first | refine go_iadd_n dX7_chance_60 ?_ | refine go_iadd dX7_chance_60 rfl ?_
      refine go_iald dX7_chance_61 rfl (by decide) rfl (by omega) (by decide) ek ?_
      refine go_iload_n dX7_chance_62 rfl ?_
      refine go_callS1 (K' := kX7_has) [_, _] dX7_chance_63 mX7_109 lX7_has rfl rfl (Nat.le_of_ble_eq_true rfl) (Nat.le_of_ble_eq_true rfl) (c_has (by omega) (by omega)) ?_
      refine go_if_eq 71 dX7_chance_66 (by decide) (fun h66 => ?_) (fun h => absurd (bI_0.mpr hkp) h)
      exact cm
theorem op_chance {O : gOm} {d : Nat} {m : gMem} {n p a x : Int32} {up : Bool} (h0 : Inv m) : OpL O (d + 40) kX6_chance kX7_chance [.int n, .int p, .int a, .int x, .int (bI up)] m := by
  have hh := h0
  obtain ⟨P, N, lw, hr, aa, c, L, lim, h1, h2, h3, h4, h5, h6, h7, h8⟩ := hh
  rcases h1 with ⟨e, -⟩ | ⟨e, -⟩
  · exact op_chance_29 h0 e
  · exact op_chance_35 h0 e
