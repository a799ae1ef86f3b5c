theorem c_in {O : gOm} {d : Nat} {m : gMem} {v a b : Int64} : Ca O d kX7_in [.long v, .long a, .long b] (some (.int (bI (decide (a ≤ v) && decide (v ≤ b))))) m m := by
  show Go O d kX7_in _ m 0 [.long v, .null, .long a, .null, .long b, .null] [] m
  refine go_lload_n dX7_in_0 rfl ?_
  refine go_lload_n dX7_in_1 rfl ?_
  refine go_lcmp dX7_in_2 rfl ?_
  refine go_if_lt 17 dX7_in_3 (by decide) (fun h3 => ?_) (fun h3 => ?_)
  · have er : bI (decide (a ≤ v) && decide (v ≤ b)) = nI 0 := by
      have e2 : ¬ a ≤ v := Int64.not_le.mpr ((lg_cmp_lt _ _).mp h3)
      simp [e2, bI]
    refine go_iconst (nI 0) dX7_in_17 (by decide +kernel) ?_
    exact go_zret dX7_in_18 rfl (by first | exact Or.inl rfl | exact Or.inr rfl) (by rw [er]) rfl
  · have e : a ≤ v := Int64.not_lt.mp (fun z => h3 ((lg_cmp_lt _ _).mpr z))
    refine go_lload_n dX7_in_6 rfl ?_
    refine go_lload dX7_in_7 rfl ?_
    refine go_lcmp dX7_in_9 rfl ?_
    refine go_if_gt 17 dX7_in_10 (by decide) (fun h10 => ?_) (fun h10 => ?_)
    · have er : bI (decide (a ≤ v) && decide (v ≤ b)) = nI 0 := by
        have e4 : ¬ v ≤ b := Int64.not_le.mpr ((lg_cmp_gt _ _).mp h10)
        simp only [e4, decide_false, Bool.and_false]
        rfl
      refine go_iconst (nI 0) dX7_in_17 (by decide +kernel) ?_
      exact go_zret dX7_in_18 rfl (by first | exact Or.inl rfl | exact Or.inr rfl) (by rw [er]) rfl
    · have e2 : v ≤ b := Int64.not_lt.mp (fun z => h10 ((lg_cmp_gt _ _).mpr z))
      have er : bI (decide (a ≤ v) && decide (v ≤ b)) = nI 1 := by simp [e, e2, bI]
      refine go_iconst (nI 1) dX7_in_13 (by decide +kernel) ?_
      refine go_goto 18 dX7_in_14 (by decide) ?_
      exact go_zret dX7_in_18 rfl (by first | exact Or.inl rfl | exact Or.inr rfl) (by rw [er]) rfl
theorem c_has {O : gOm} {d : Nat} {m : gMem} {a k : Nat} (ha : a < 2 ^ 31) (hk : k < 31) : Ca O d kX7_has [.int (nI a), .int (nI k)] (some (.int (bI (a.testBit k)))) m m := by
  have e : nI a >>> (nI k &&& 31) &&& nI 1 = nI (if a.testBit k then 1 else 0) := by rw [nb_bit ha (by omega), nb_tb]
  show Go O d kX7_has _ m 0 [.int (nI a), .int (nI k)] [] m
  refine go_iload_n dX7_has_0 rfl ?_
  refine go_iload_n dX7_has_1 rfl ?_
  refine go_ishr dX7_has_2 rfl ?_
  refine go_iconst (nI 1) dX7_has_3 (by decide +kernel) ?_
  refine go_iand dX7_has_4 e ?_
  refine go_iconst (nI 1) dX7_has_5 (by decide +kernel) ?_
  refine go_icmp_ne 13 dX7_has_6 (by decide) (fun h6 => ?_) (fun h6 => ?_)
  · have e2 : a.testBit k = false := by
      cases h : a.testBit k with
      | false => rfl
      | true => rw [h] at h6; exact absurd rfl h6
    refine go_iconst (nI 0) dX7_has_13 (by decide +kernel) ?_
    exact go_zret dX7_has_14 rfl (by first | exact Or.inl rfl | exact Or.inr rfl) (by first | (rw [bI_T e2]; done) | (rw [bI_F e2]; done)) rfl
  · have e2 : a.testBit k = true := by
      cases h : a.testBit k with
      | true => rfl
      | false => rw [h] at h6; exact absurd h6 (by decide +kernel)
    refine go_iconst (nI 1) dX7_has_9 (by decide +kernel) ?_
    refine go_goto 14 dX7_has_10 (by decide) ?_
    exact go_zret dX7_has_14 rfl (by first | exact Or.inl rfl | exact Or.inr rfl) (by first | (rw [bI_T e2]; done) | (rw [bI_F e2]; done)) rfl
theorem c_many {O : gOm} {d : Nat} {m : gMem} {a : Nat} (ha : a < 2 ^ 31) : Ca O d kX7_many [.int (nI a)] (some (.int (nI (pc6 a)))) m m := by
  have key : ∀ n k, k + n = 6 → Go O d kX7_many (some (.int (nI (pc6 a)))) m 4 [.int (nI a), .int (nI (pcA a k)), .int (nI k)] [] m := by
    intro n
    induction n with
    | zero =>
      intro k hk
      refine go_iload_n dX7_many_4 rfl ?_
      refine go_bipush (nI 6) dX7_many_5 (by decide +kernel) ?_
      refine go_icmp_ge 24 dX7_many_7 (by decide) (fun h7 => ?_) (fun h => absurd (nI_le (by omega) (by omega)) h)
      refine go_iload_n dX7_many_24 rfl ?_
      exact go_iret dX7_many_25 rfl (by rw [show k = 6 by omega]; rfl) rfl
    | succ n ih =>
      intro k hk
      refine go_iload_n dX7_many_4 rfl ?_
      refine go_bipush (nI 6) dX7_many_5 (by decide +kernel) ?_
      refine go_icmp_ge 24 dX7_many_7 (by decide) (fun h => absurd h (nI_ge (by omega) (by omega))) (fun h7 => ?_)
      refine go_iload_n dX7_many_10 rfl ?_
      refine go_iload_n dX7_many_11 rfl ?_
      refine go_iload_n dX7_many_12 rfl ?_
      refine go_ishr dX7_many_13 rfl ?_
      refine go_iconst (nI 1) dX7_many_14 (by decide +kernel) ?_
      refine go_iand dX7_many_15 (nb_bit ha (by omega)) ?_
      first | refine go_iadd_n dX7_many_16 ?_ | refine go_iadd dX7_many_16 rfl ?_
      refine go_istore_n (L' := [_, _, _]) dX7_many_17 (by decide) rfl ?_
      refine go_iinc_n (L' := [_, _, _]) dX7_many_18 rfl (by decide) rfl ?_
      refine go_goto 4 dX7_many_21 (by decide) ?_
      exact ih (k + 1) (by omega)
  show Go O d kX7_many _ m 0 [.int (nI a), .null, .null] [] m
  refine go_iconst (nI 0) dX7_many_0 (by decide +kernel) ?_
  refine go_istore_n (L' := [_, _, _]) dX7_many_1 (by decide) rfl ?_
  refine go_iconst (nI 0) dX7_many_2 (by decide +kernel) ?_
  refine go_istore_n (L' := [_, _, _]) dX7_many_3 (by decide) rfl ?_
  exact key 6 0 (by omega)
theorem c_noOne {O : gOm} {d : Nat} {m : gMem} {x : Int32} {n : Nat} (hn : m.1 46 4 = nI n) (h6 : n ≤ 6) : Ca O (d + 1) kX7_noOne [.ref 46, .int x] (some (.int (bI (!(iR x n))))) m m := by
  show Go O (d + 1) kX7_noOne _ m 0 [.ref 46, .int x] [] m
  refine go_iload_n dX7_noOne_0 rfl ?_
  refine go_i2l dX7_noOne_1 rfl ?_
  refine go_lconst 0 dX7_noOne_2 (by decide +kernel) ?_
  refine go_aload_n dX7_noOne_3 rfl ?_
  refine go_geti dX7_noOne_4 fX7_81 rfl (by decide) (by decide) (by decide) rfl hn ?_
  refine go_iconst (nI 1) dX7_noOne_7 (by decide +kernel) ?_
  refine go_isub dX7_noOne_8 rfl ?_
  refine go_i2l dX7_noOne_9 rfl ?_
  refine go_callS1 (K' := kX7_in) [_, _, _] dX7_noOne_10 mX7_84 lX7_in rfl rfl (Nat.le_of_ble_eq_true rfl) (Nat.le_of_ble_eq_true rfl) (c_in) ?_
  refine go_if_ne 20 dX7_noOne_13 (by decide) (fun h13 => ?_) (fun h13 => ?_)
  · have e := bI_n0.mp h13
    rw [iR_in x (by omega)] at e
    refine go_iconst (nI 0) dX7_noOne_20 (by decide +kernel) ?_
    exact go_zret dX7_noOne_21 rfl (by first | exact Or.inl rfl | exact Or.inr rfl) (by rw [e]; rfl) rfl
  · have e := bI_0.mp h13
    rw [iR_in x (by omega)] at e
    refine go_iconst (nI 1) dX7_noOne_16 (by decide +kernel) ?_
    refine go_goto 21 dX7_noOne_17 (by decide) ?_
    exact go_zret dX7_noOne_21 rfl (by first | exact Or.inl rfl | exact Or.inr rfl) (by rw [e]; rfl) rfl
theorem c_noNews {O : gOm} {d : Nat} {m : gMem} {x : Int32} {n : Nat} (hn : m.1 46 5 = nI n) (h6 : n ≤ 6) : Ca O (d + 1) kX7_noNews [.ref 46, .int x] (some (.int (bI (!(iR x n))))) m m := by
  show Go O (d + 1) kX7_noNews _ m 0 [.ref 46, .int x] [] m
  refine go_iload_n dX7_noNews_0 rfl ?_
  refine go_i2l dX7_noNews_1 rfl ?_
  refine go_lconst 0 dX7_noNews_2 (by decide +kernel) ?_
  refine go_aload_n dX7_noNews_3 rfl ?_
  refine go_geti dX7_noNews_4 fX7_88 rfl (by decide) (by decide) (by decide) rfl hn ?_
  refine go_iconst (nI 1) dX7_noNews_7 (by decide +kernel) ?_
  refine go_isub dX7_noNews_8 rfl ?_
  refine go_i2l dX7_noNews_9 rfl ?_
  refine go_callS1 (K' := kX7_in) [_, _, _] dX7_noNews_10 mX7_84 lX7_in rfl rfl (Nat.le_of_ble_eq_true rfl) (Nat.le_of_ble_eq_true rfl) (c_in) ?_
  refine go_if_ne 20 dX7_noNews_13 (by decide) (fun h13 => ?_) (fun h13 => ?_)
  · have e := bI_n0.mp h13
    rw [iR_in x (by omega)] at e
    refine go_iconst (nI 0) dX7_noNews_20 (by decide +kernel) ?_
    exact go_zret dX7_noNews_21 rfl (by first | exact Or.inl rfl | exact Or.inr rfl) (by rw [e]; rfl) rfl
  · have e := bI_0.mp h13
    rw [iR_in x (by omega)] at e
    refine go_iconst (nI 1) dX7_noNews_16 (by decide +kernel) ?_
    refine go_goto 21 dX7_noNews_17 (by decide) ?_
    exact go_zret dX7_noNews_21 rfl (by first | exact Or.inl rfl | exact Or.inr rfl) (by rw [e]; rfl) rfl
