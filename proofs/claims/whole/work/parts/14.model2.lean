theorem c_those {O : gOm} {d : Nat} {m : gMem} {P h : Nat} {a : Int32} (hP : m.1 46 4 = nI P) (hP6 : P ≤ 6) (hh : h < 6) : Ca O d kX7_those [.ref 46, .int a, .int (nI h)] (some (.int (nI (th (m.1 48) a h P)))) m m := by
  have key : ∀ n p, p + n = P → Go O d kX7_those (some (.int (nI (th (m.1 48) a h P)))) m 5 [.ref 46, .int a, .int (nI h), .int (nI (th (m.1 48) a h p)), .int (nI p)] [] m := by
    intro n
    induction n with
    | zero =>
      intro p hp
      refine go_iload dX7_those_5 rfl ?_
      refine go_aload_n dX7_those_7 rfl ?_
      refine go_geti dX7_those_8 fX7_81 rfl (by decide) (by decide) (by decide) rfl hP ?_
      refine go_icmp_ge 47 dX7_those_11 (by decide) (fun h11 => ?_) (fun h => absurd (nI_le (by omega) (by omega)) h)
      refine go_iload_n dX7_those_47 rfl ?_
      exact go_iret dX7_those_48 rfl (by rw [show p = P by omega]) rfl
    | succ n ih =>
      intro p hp
      refine go_iload dX7_those_5 rfl ?_
      refine go_aload_n dX7_those_7 rfl ?_
      refine go_geti dX7_those_8 fX7_81 rfl (by decide) (by decide) (by decide) rfl hP ?_
      refine go_icmp_ge 47 dX7_those_11 (by decide) (fun h => absurd h (nI_ge (by omega) (by omega))) (fun h11 => ?_)
      refine go_iload_n dX7_those_14 rfl ?_
      refine go_aload_n dX7_those_15 rfl ?_
      refine go_getc dX7_those_16 fX7_13 rfl (by decide) (by decide) (by decide) rfl ?_
      refine go_bipush (nI 6) dX7_those_19 (by decide +kernel) ?_
      refine go_iload dX7_those_21 rfl ?_
      first | refine go_imul_n dX7_those_23 ?_ | refine go_imul dX7_those_23 rfl ?_
      refine go_iload_n dX7_those_24 rfl ?_
      first | refine go_iadd_n dX7_those_25 ?_ | refine go_iadd dX7_those_25 rfl ?_
      refine go_iald dX7_those_26 rfl (by decide) rfl (by omega) (by decide) rfl ?_
      refine go_iload_n dX7_those_27 rfl ?_
      refine go_icmp_ne 38 dX7_those_28 (by decide) (fun h28 => ?_) (fun h28 => ?_)
      · have ev : nI (th (m.1 48) a h p) ||| nI 0 = nI (th (m.1 48) a h (p + 1)) := by rw [nb_or, th, if_neg h28]
        refine go_iconst (nI 0) dX7_those_38 (by decide +kernel) ?_
        refine go_ior dX7_those_39 ev ?_
        refine go_istore_n (L' := [_, _, _, _, _]) dX7_those_40 (by decide) rfl ?_
        refine go_iinc_n (L' := [_, _, _, _, _]) dX7_those_41 rfl (by decide) rfl ?_
        refine go_goto 5 dX7_those_44 (by decide) ?_
        exact ih (p + 1) (by omega)
      · have ev : nI (th (m.1 48) a h p) ||| (nI 1 <<< (nI p &&& 31)) = nI (th (m.1 48) a h (p + 1)) := by rw [nb_one (by omega), nb_or, th, if_pos h28]
        refine go_iconst (nI 1) dX7_those_31 (by decide +kernel) ?_
        refine go_iload dX7_those_32 rfl ?_
        refine go_ishl dX7_those_34 rfl ?_
        refine go_goto 39 dX7_those_35 (by decide) ?_
        refine go_ior dX7_those_39 ev ?_
        refine go_istore_n (L' := [_, _, _, _, _]) dX7_those_40 (by decide) rfl ?_
        refine go_iinc_n (L' := [_, _, _, _, _]) dX7_those_41 rfl (by decide) rfl ?_
        refine go_goto 5 dX7_those_44 (by decide) ?_
        exact ih (p + 1) (by omega)
  show Go O d kX7_those _ m 0 [.ref 46, .int a, .int (nI h), .null, .null] [] m
  refine go_iconst (nI 0) dX7_those_0 (by decide +kernel) ?_
  refine go_istore_n (L' := [_, _, _, _, _]) dX7_those_1 (by decide) rfl ?_
  refine go_iconst (nI 0) dX7_those_2 (by decide +kernel) ?_
  refine go_istore (L' := [_, _, _, _, _]) dX7_those_3 (by decide) rfl ?_
  exact key P 0 (by omega)
theorem c_canAt {O : gOm} {d : Nat} {m : gMem} {P h k : Nat} {a : Int32} (hP : m.1 46 4 = nI P) (hP6 : P ≤ 6) (hh : h < 6) (hk : k < 64) : Ca O (d + 1) kX7_canAt [.ref 46, .int a, .int (nI h), .int (nI k)] (some (.int (bI (canB (th (m.1 48) a h P) k)))) m m := by
  have hg := th_64 (m.1 48) a h hP6
  have hp := pc6_le (th (m.1 48) a h P)
  have hand : th (m.1 48) a h P &&& k < 64 := Nat.and_lt_two_pow (n := 6) _ hk
  show Go O (d + 1) kX7_canAt _ m 0 [.ref 46, .int a, .int (nI h), .int (nI k), .null] [] m
  refine go_aload_n dX7_canAt_0 rfl ?_
  refine go_iload_n dX7_canAt_1 rfl ?_
  refine go_iload_n dX7_canAt_2 rfl ?_
  refine go_callV1 (K' := kX7_those) [_, _] dX7_canAt_3 mX7_158 lX7_those rfl (by decide) rfl (by decide) rfl rfl (Nat.le_of_ble_eq_true rfl) (Nat.le_of_ble_eq_true rfl) (c_those hP hP6 hh) ?_
  refine go_istore (L' := [_, _, _, _, _]) dX7_canAt_6 (by decide) rfl ?_
  refine go_iload dX7_canAt_8 rfl ?_
  refine go_callS1 (K' := kX7_many) [_] dX7_canAt_10 mX7_143 lX7_many rfl rfl (Nat.le_of_ble_eq_true rfl) (Nat.le_of_ble_eq_true rfl) (c_many (by omega)) ?_
  refine go_iconst (nI 1) dX7_canAt_13 (by decide +kernel) ?_
  refine go_icmp_le 28 dX7_canAt_14 (by decide) (fun h14 => ?_) (fun h14 => ?_)
  · have er : bI (canB (th (m.1 48) a h P) k) = nI 0 := by
      have e := (nI_leI (by omega) (by omega)).mp h14
      have e2 : ¬ 1 < pc6 (th (m.1 48) a h P) := by omega
      simp [canB, e2, bI]
    refine go_iconst (nI 0) dX7_canAt_28 (by decide +kernel) ?_
    exact go_zret dX7_canAt_29 rfl (by first | exact Or.inl rfl | exact Or.inr rfl) (by rw [er]) rfl
  · have e1 : 1 < pc6 (th (m.1 48) a h P) := by
      rcases Nat.lt_or_ge 1 (pc6 (th (m.1 48) a h P)) with z | z
      · exact z
      · exact absurd (nI_le z (by omega)) h14
    refine go_iload dX7_canAt_17 rfl ?_
    refine go_iload_n dX7_canAt_19 rfl ?_
    refine go_iand dX7_canAt_20 (nb_and _ _) ?_
    refine go_if_eq 28 dX7_canAt_21 (by decide) (fun h21 => ?_) (fun h21 => ?_)
    · have er : bI (canB (th (m.1 48) a h P) k) = nI 0 := by
        have e := (nI_eq (b := 0) (by omega) (by omega)).mp h21
        simp [canB, e, bI]
      refine go_iconst (nI 0) dX7_canAt_28 (by decide +kernel) ?_
      exact go_zret dX7_canAt_29 rfl (by first | exact Or.inl rfl | exact Or.inr rfl) (by rw [er]) rfl
    · have er : bI (canB (th (m.1 48) a h P) k) = nI 1 := by
        have e : ¬ th (m.1 48) a h P &&& k = 0 := fun z => h21 (by rw [z]; rfl)
        simp [canB, e, e1, bI]
      refine go_iconst (nI 1) dX7_canAt_24 (by decide +kernel) ?_
      refine go_goto 29 dX7_canAt_25 (by decide) ?_
      exact go_zret dX7_canAt_29 rfl (by first | exact Or.inl rfl | exact Or.inr rfl) (by rw [er]) rfl
theorem c_behind {O : gOm} {d : Nat} {m : gMem} {P h S k : Nat} (hP : m.1 46 4 = nI P) (hP6 : P ≤ 6) (hh : h < 6) (hS : S < 8) (hk : k < 64) : Ca O (d + 2) kX7_behind [.ref 46, .int (nI S), .int (nI h), .int (nI k)] (some (.int (oI (-9) (bh (grp (m.1 48) P h) S k)))) m m := by
  have key : ∀ n j s, j + n = 3 → bhA (grp (m.1 48) P h) S k j = some s → Go O (d + 2) kX7_behind (some (.int (oI (-9) (bh (grp (m.1 48) P h) S k)))) m 6 [.ref 46, .int (nI S), .int (nI h), .int (nI k), .int (nI s), .int (nI j)] [] m := by
    intro n
    induction n with
    | zero =>
      intro j s hj hs
      refine go_iload dX7_behind_6 rfl ?_
      refine go_iconst (nI 3) dX7_behind_8 (by decide +kernel) ?_
      refine go_icmp_ge 53 dX7_behind_9 (by decide) (fun h9 => ?_) (fun h => absurd (nI_le (by omega) (by omega)) h)
      refine go_iload dX7_behind_53 rfl ?_
      exact go_iret dX7_behind_55 rfl (by rw [bh, show (3 : Nat) = j by omega, hs]; rfl) rfl
    | succ n ih =>
      intro j s hj hs
      refine go_iload dX7_behind_6 rfl ?_
      refine go_iconst (nI 3) dX7_behind_8 (by decide +kernel) ?_
      refine go_icmp_ge 53 dX7_behind_9 (by decide) (fun h => absurd h (nI_ge (by omega) (by omega))) (fun h9 => ?_)
      refine go_iload_n dX7_behind_12 rfl ?_
      refine go_iload dX7_behind_13 rfl ?_
      refine go_callS1 (K' := kX7_has) [_, _] dX7_behind_15 mX7_109 lX7_has rfl rfl (Nat.le_of_ble_eq_true rfl) (Nat.le_of_ble_eq_true rfl) (c_has (by omega) (by omega)) ?_
      refine go_if_eq 47 dX7_behind_18 (by decide) (fun h18 => ?_) (fun h18 => ?_)
      · have e := bI_0.mp h18
        have hs2 : bhA (grp (m.1 48) P h) S k (j + 1) = some s := by simp [bhA, hs, e]
        refine go_iinc_n (L' := [_, _, _, _, _, _]) dX7_behind_47 rfl (by decide) rfl ?_
        refine go_goto 6 dX7_behind_50 (by decide) ?_
        exact ih (j + 1) _ (by omega) hs2
      · have e := bI_n0.mp h18
        refine go_aload_n dX7_behind_21 rfl ?_
        refine go_iload dX7_behind_22 rfl ?_
        refine go_iload_n dX7_behind_24 rfl ?_
        refine go_iload_n dX7_behind_25 rfl ?_
        refine go_callV1 (K' := kX7_canAt) [_, _, _] dX7_behind_26 mX7_179 lX7_canAt rfl (by decide) rfl (by decide) rfl rfl (Nat.le_of_ble_eq_true rfl) (Nat.le_of_ble_eq_true rfl) (c_canAt hP hP6 hh hk) ?_
        refine go_if_ne 35 dX7_behind_29 (by decide) (fun h29 => ?_) (fun h29 => ?_)
        · have e3 : canB (grp (m.1 48) P h j) k = true := bI_n0.mp h29
          have hs2 : bhA (grp (m.1 48) P h) S k (j + 1) = some (s ||| grp (m.1 48) P h j) := by
            simp only [bhA, hs]
            rw [if_pos e, if_pos e3]
          refine go_iload dX7_behind_35 rfl ?_
          refine go_aload_n dX7_behind_37 rfl ?_
          refine go_iload dX7_behind_38 rfl ?_
          refine go_iload_n dX7_behind_40 rfl ?_
          refine go_callV1 (K' := kX7_those) [_, _] dX7_behind_41 mX7_158 lX7_those rfl (by decide) rfl (by decide) rfl rfl (Nat.le_of_ble_eq_true rfl) (Nat.le_of_ble_eq_true rfl) (c_those hP hP6 hh) ?_
          refine go_ior dX7_behind_44 (nb_or _ _) ?_
          refine go_istore (L' := [_, _, _, _, _, _]) dX7_behind_45 (by decide) rfl ?_
          refine go_iinc_n (L' := [_, _, _, _, _, _]) dX7_behind_47 rfl (by decide) rfl ?_
          refine go_goto 6 dX7_behind_50 (by decide) ?_
          exact ih (j + 1) _ (by omega) hs2
        · have e3 := bI_0.mp h29
          have er : bh (grp (m.1 48) P h) S k = none := by
            have z : bhA (grp (m.1 48) P h) S k (j + 1) = none := by
              simp only [bhA, hs]
              rw [if_pos e, if_neg (by rw [show canB (grp (m.1 48) P h j) k = false from e3]; decide)]
            have := bhA_none z (2 - j)
            rwa [show j + 1 + (2 - j) = 3 by omega] at this
          refine go_bipush (-9) dX7_behind_32 (by decide +kernel) ?_
          exact go_iret dX7_behind_34 rfl (by rw [er]; rfl) rfl
  show Go O (d + 2) kX7_behind _ m 0 [.ref 46, .int (nI S), .int (nI h), .int (nI k), .null, .null] [] m
  refine go_iload_n dX7_behind_0 rfl ?_
  refine go_istore (L' := [_, _, _, _, _, _]) dX7_behind_1 (by decide) rfl ?_
  refine go_iconst (nI 0) dX7_behind_3 (by decide +kernel) ?_
  refine go_istore (L' := [_, _, _, _, _, _]) dX7_behind_4 (by decide) rfl ?_
  exact key 3 0 k (by omega) rfl
theorem c_leftOf {O : gOm} {d : Nat} {m : gMem} {n a b : Nat} (hn : n < 3) (ha : m.1 49 n = nI a) (hb : m.1 52 n = nI b) (hab : b ≤ a) : Ca O d kX7_leftOf [.ref 46, .int (nI n)] (some (.int (nI (a - b)))) m m := by
  show Go O d kX7_leftOf _ m 0 [.ref 46, .int (nI n)] [] m
  refine go_aload_n dX7_leftOf_0 rfl ?_
  refine go_getc dX7_leftOf_1 fX7_16 rfl (by decide) (by decide) (by decide) rfl ?_
  refine go_iload_n dX7_leftOf_4 rfl ?_
  refine go_iald dX7_leftOf_5 rfl (by decide) rfl (by omega) (by decide) ha ?_
  refine go_aload_n dX7_leftOf_6 rfl ?_
  refine go_getc dX7_leftOf_7 fX7_25 rfl (by decide) (by decide) (by decide) rfl ?_
  refine go_iload_n dX7_leftOf_10 rfl ?_
  refine go_iald dX7_leftOf_11 rfl (by decide) rfl (by omega) (by decide) hb ?_
  refine go_isub dX7_leftOf_12 (pk_sub hab) ?_
  exact go_iret dX7_leftOf_13 rfl rfl rfl
/-- the group at a place, 3: none -/
def gr3 (gr : Nat → Nat) (a : Nat) : Nat := if a < 3 then gr a else 0
theorem gr3_t {gr : Nat → Nat} {a : Nat} (h : a < 3) : gr3 gr a = gr a := if_pos h
theorem gr3_f {gr : Nat → Nat} {a : Nat} (h : ¬ a < 3) : gr3 gr a = 0 := if_neg h
theorem c_both {O : gOm} {d : Nat} {m : gMem} {P h k a b : Nat} (hP : m.1 46 4 = nI P) (hP6 : P ≤ 6) (hh : h < 6) (ha : a < 4) (hb : b < 4) : Ca O (d + 1) kX7_both [.ref 46, .int (nI a), .int (nI b), .int (nI h), .int (nI k)] (some (.int (nI (k ||| gr3 (grp (m.1 48) P h) a ||| gr3 (grp (m.1 48) P h) b)))) m m := by
  show Go O (d + 1) kX7_both _ m 0 [.ref 46, .int (nI a), .int (nI b), .int (nI h), .int (nI k), .null] [] m
  refine go_iload dX7_both_0 rfl ?_
  refine go_istore (L' := [_, _, _, _, _, _]) dX7_both_2 (by decide) rfl ?_
  refine go_iload dX7_both_4 rfl ?_
  refine go_iload_n dX7_both_6 rfl ?_
  refine go_iconst (nI 3) dX7_both_7 (by decide +kernel) ?_
  refine go_icmp_ge 20 dX7_both_8 (by decide) (fun h8 => ?_) (fun h8 => ?_)
  · have z1 : ¬ a < 3 := by
      have := (nI_leI (by omega) (by omega)).mp h8
      omega
    have e1 : nI k ||| nI 0 = nI (k ||| gr3 (grp (m.1 48) P h) a) := by rw [nb_or, gr3_f z1]
    refine go_iconst (nI 0) dX7_both_20 (by decide +kernel) ?_
    refine go_ior dX7_both_21 e1 ?_
    refine go_istore (L' := [_, _, _, _, _, _]) dX7_both_22 (by decide) rfl ?_
    refine go_iload dX7_both_24 rfl ?_
    refine go_iload_n dX7_both_26 rfl ?_
    refine go_iconst (nI 3) dX7_both_27 (by decide +kernel) ?_
    refine go_icmp_ge 40 dX7_both_28 (by decide) (fun h28 => ?_) (fun h28 => ?_)
    · have z2 : ¬ b < 3 := by
        have := (nI_leI (by omega) (by omega)).mp h28
        omega
      have e2 : nI (k ||| gr3 (grp (m.1 48) P h) a) ||| nI 0 = nI (k ||| gr3 (grp (m.1 48) P h) a ||| gr3 (grp (m.1 48) P h) b) := by rw [nb_or, gr3_f z2]
      refine go_iconst (nI 0) dX7_both_40 (by decide +kernel) ?_
      refine go_ior dX7_both_41 e2 ?_
      refine go_istore (L' := [_, _, _, _, _, _]) dX7_both_42 (by decide) rfl ?_
      refine go_iload dX7_both_44 rfl ?_
      exact go_iret dX7_both_46 rfl rfl rfl
    · have z2 : b < 3 := by
        rcases Nat.lt_or_ge b 3 with z | z
        · exact z
        · exact absurd (nI_le z (by omega)) h28
      have e2 : nI (k ||| gr3 (grp (m.1 48) P h) a) ||| nI (th (m.1 48) (nI b) h P) = nI (k ||| gr3 (grp (m.1 48) P h) a ||| gr3 (grp (m.1 48) P h) b) := by rw [nb_or, gr3_t z2]; rfl
      refine go_aload_n dX7_both_31 rfl ?_
      refine go_iload_n dX7_both_32 rfl ?_
      refine go_iload_n dX7_both_33 rfl ?_
      refine go_callV1 (K' := kX7_those) [_, _] dX7_both_34 mX7_158 lX7_those rfl (by decide) rfl (by decide) rfl rfl (Nat.le_of_ble_eq_true rfl) (Nat.le_of_ble_eq_true rfl) (c_those hP hP6 hh) ?_
      refine go_goto 41 dX7_both_37 (by decide) ?_
      refine go_ior dX7_both_41 e2 ?_
      refine go_istore (L' := [_, _, _, _, _, _]) dX7_both_42 (by decide) rfl ?_
      refine go_iload dX7_both_44 rfl ?_
      exact go_iret dX7_both_46 rfl rfl rfl
  · have z1 : a < 3 := by
      rcases Nat.lt_or_ge a 3 with z | z
      · exact z
      · exact absurd (nI_le z (by omega)) h8
    have e1 : nI k ||| nI (th (m.1 48) (nI a) h P) = nI (k ||| gr3 (grp (m.1 48) P h) a) := by rw [nb_or, gr3_t z1]; rfl
    refine go_aload_n dX7_both_11 rfl ?_
    refine go_iload_n dX7_both_12 rfl ?_
    refine go_iload_n dX7_both_13 rfl ?_
    refine go_callV1 (K' := kX7_those) [_, _] dX7_both_14 mX7_158 lX7_those rfl (by decide) rfl (by decide) rfl rfl (Nat.le_of_ble_eq_true rfl) (Nat.le_of_ble_eq_true rfl) (c_those hP hP6 hh) ?_
    refine go_goto 21 dX7_both_17 (by decide) ?_
    refine go_ior dX7_both_21 e1 ?_
    refine go_istore (L' := [_, _, _, _, _, _]) dX7_both_22 (by decide) rfl ?_
    refine go_iload dX7_both_24 rfl ?_
    refine go_iload_n dX7_both_26 rfl ?_
    refine go_iconst (nI 3) dX7_both_27 (by decide +kernel) ?_
    refine go_icmp_ge 40 dX7_both_28 (by decide) (fun h28 => ?_) (fun h28 => ?_)
    · have z2 : ¬ b < 3 := by
        have := (nI_leI (by omega) (by omega)).mp h28
        omega
      have e2 : nI (k ||| gr3 (grp (m.1 48) P h) a) ||| nI 0 = nI (k ||| gr3 (grp (m.1 48) P h) a ||| gr3 (grp (m.1 48) P h) b) := by rw [nb_or, gr3_f z2]
      refine go_iconst (nI 0) dX7_both_40 (by decide +kernel) ?_
      refine go_ior dX7_both_41 e2 ?_
      refine go_istore (L' := [_, _, _, _, _, _]) dX7_both_42 (by decide) rfl ?_
      refine go_iload dX7_both_44 rfl ?_
      exact go_iret dX7_both_46 rfl rfl rfl
    · have z2 : b < 3 := by
        rcases Nat.lt_or_ge b 3 with z | z
        · exact z
        · exact absurd (nI_le z (by omega)) h28
      have e2 : nI (k ||| gr3 (grp (m.1 48) P h) a) ||| nI (th (m.1 48) (nI b) h P) = nI (k ||| gr3 (grp (m.1 48) P h) a ||| gr3 (grp (m.1 48) P h) b) := by rw [nb_or, gr3_t z2]; rfl
      refine go_aload_n dX7_both_31 rfl ?_
      refine go_iload_n dX7_both_32 rfl ?_
      refine go_iload_n dX7_both_33 rfl ?_
      refine go_callV1 (K' := kX7_those) [_, _] dX7_both_34 mX7_158 lX7_those rfl (by decide) rfl (by decide) rfl rfl (Nat.le_of_ble_eq_true rfl) (Nat.le_of_ble_eq_true rfl) (c_those hP hP6 hh) ?_
      refine go_goto 41 dX7_both_37 (by decide) ?_
      refine go_ior dX7_both_41 e2 ?_
      refine go_istore (L' := [_, _, _, _, _, _]) dX7_both_42 (by decide) rfl ?_
      refine go_iload dX7_both_44 rfl ?_
      exact go_iret dX7_both_46 rfl rfl rfl
