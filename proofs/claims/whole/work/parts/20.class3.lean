theorem or_add {a b i : Nat} (h : a < 2 ^ i) : a ||| b * 2 ^ i = a + b * 2 ^ i := by
  have := Nat.two_pow_add_eq_or_of_lt h b
  rw [Nat.or_comm, Nat.mul_comm, ← this, Nat.add_comm]
theorem and_63 (a : Nat) : a &&& 63 = a % 64 := Nat.and_two_pow_sub_one_eq_mod a 6
def pk3 (a b c : Nat) : Nat := a + 64 * b + 4096 * c
theorem c_packedKnown_3 {O : gOm} {d : Nat} {m : gMem} {k0 k1 k2 : Nat} (h0 : m.1 4 0 = nI k0) (h1 : m.1 4 1 = nI k1) (h2 : m.1 4 2 = nI k2) (b0 : k0 < 64) (b1 : k1 < 64) (b2 : k2 < 64) : Ca O d kX5_packedKnown [.ref 3] (some (.int (nI (pk3 k0 k1 k2)))) m m := by
  have e0 : nI 0 ||| nI (k0 * 2 ^ (0 * 6)) = nI k0 := by rw [nb_or, Nat.zero_or, Nat.zero_mul, Nat.pow_zero, Nat.mul_one]
  have e1 : nI k0 ||| nI (k1 * 2 ^ (1 * 6)) = nI (k0 + 64 * k1) := by rw [nb_or, or_add (by omega)]; congr 1; omega
  have e2 : nI (k0 + 64 * k1) ||| nI (k2 * 2 ^ (2 * 6)) = nI (pk3 k0 k1 k2) := by rw [nb_or, or_add (by omega), pk3]; congr 1; omega
  show Go O d kX5_packedKnown _ m 0 [.ref 3, .null, .null] [] m
  refine go_iconst (nI 0) dX5_packedKnown_0 (by decide +kernel) ?_
  refine go_istore_n (L' := [_, _, _]) dX5_packedKnown_1 (by decide) rfl ?_
  refine go_iconst (nI 0) dX5_packedKnown_2 (by decide +kernel) ?_
  refine go_istore_n (L' := [_, _, _]) dX5_packedKnown_3 (by decide) rfl ?_
  skip
  refine go_iload_n dX5_packedKnown_4 rfl ?_
  refine go_iconst (nI 3) dX5_packedKnown_5 (by decide +kernel) ?_
  refine go_icmp_ge 29 dX5_packedKnown_6 (by decide) (fun h => absurd h (nI_ge (by decide) (by decide))) (fun h6 => ?_)
  refine go_iload_n dX5_packedKnown_9 rfl ?_
  refine go_aload_n dX5_packedKnown_10 rfl ?_
  refine go_getc dX5_packedKnown_11 fX5_9 rfl (by decide) (by decide) (by decide) rfl ?_
  refine go_iload_n dX5_packedKnown_14 rfl ?_
  refine go_iald dX5_packedKnown_15 rfl (by decide) rfl (by decide) (by decide) h0 ?_
  refine go_iload_n dX5_packedKnown_16 rfl ?_
  refine go_bipush (nI 6) dX5_packedKnown_17 (by decide +kernel) ?_
  first | refine go_imul_n dX5_packedKnown_19 ?_ | refine go_imul dX5_packedKnown_19 rfl ?_
  refine go_ishl dX5_packedKnown_20 (nb_shl (by decide) (by omega)) ?_
  refine go_ior dX5_packedKnown_21 e0 ?_
  refine go_istore_n (L' := [_, _, _]) dX5_packedKnown_22 (by decide) rfl ?_
  refine go_iinc_n (L' := [_, _, _]) dX5_packedKnown_23 rfl (by decide) rfl ?_
  refine go_goto 4 dX5_packedKnown_26 (by decide) ?_
  skip
  refine go_iload_n dX5_packedKnown_4 rfl ?_
  refine go_iconst (nI 3) dX5_packedKnown_5 (by decide +kernel) ?_
  refine go_icmp_ge 29 dX5_packedKnown_6 (by decide) (fun h => absurd h (nI_ge (by decide) (by decide))) (fun h6 => ?_)
  refine go_iload_n dX5_packedKnown_9 rfl ?_
  refine go_aload_n dX5_packedKnown_10 rfl ?_
  refine go_getc dX5_packedKnown_11 fX5_9 rfl (by decide) (by decide) (by decide) rfl ?_
  refine go_iload_n dX5_packedKnown_14 rfl ?_
  refine go_iald dX5_packedKnown_15 rfl (by decide) rfl (by decide) (by decide) h1 ?_
  refine go_iload_n dX5_packedKnown_16 rfl ?_
  refine go_bipush (nI 6) dX5_packedKnown_17 (by decide +kernel) ?_
  first | refine go_imul_n dX5_packedKnown_19 ?_ | refine go_imul dX5_packedKnown_19 rfl ?_
  refine go_ishl dX5_packedKnown_20 (nb_shl (by decide) (by omega)) ?_
  refine go_ior dX5_packedKnown_21 e1 ?_
  refine go_istore_n (L' := [_, _, _]) dX5_packedKnown_22 (by decide) rfl ?_
  refine go_iinc_n (L' := [_, _, _]) dX5_packedKnown_23 rfl (by decide) rfl ?_
  refine go_goto 4 dX5_packedKnown_26 (by decide) ?_
  skip
  refine go_iload_n dX5_packedKnown_4 rfl ?_
  refine go_iconst (nI 3) dX5_packedKnown_5 (by decide +kernel) ?_
  refine go_icmp_ge 29 dX5_packedKnown_6 (by decide) (fun h => absurd h (nI_ge (by decide) (by decide))) (fun h6 => ?_)
  refine go_iload_n dX5_packedKnown_9 rfl ?_
  refine go_aload_n dX5_packedKnown_10 rfl ?_
  refine go_getc dX5_packedKnown_11 fX5_9 rfl (by decide) (by decide) (by decide) rfl ?_
  refine go_iload_n dX5_packedKnown_14 rfl ?_
  refine go_iald dX5_packedKnown_15 rfl (by decide) rfl (by decide) (by decide) h2 ?_
  refine go_iload_n dX5_packedKnown_16 rfl ?_
  refine go_bipush (nI 6) dX5_packedKnown_17 (by decide +kernel) ?_
  first | refine go_imul_n dX5_packedKnown_19 ?_ | refine go_imul dX5_packedKnown_19 rfl ?_
  refine go_ishl dX5_packedKnown_20 (nb_shl (by decide) (by omega)) ?_
  refine go_ior dX5_packedKnown_21 e2 ?_
  refine go_istore_n (L' := [_, _, _]) dX5_packedKnown_22 (by decide) rfl ?_
  refine go_iinc_n (L' := [_, _, _]) dX5_packedKnown_23 rfl (by decide) rfl ?_
  refine go_goto 4 dX5_packedKnown_26 (by decide) ?_
  skip
  refine go_iload_n dX5_packedKnown_4 rfl ?_
  refine go_iconst (nI 3) dX5_packedKnown_5 (by decide +kernel) ?_
  refine go_icmp_ge 29 dX5_packedKnown_6 (by decide) (fun h6 => ?_) (fun h => absurd (nI_le (by decide) (by decide)) h)
  refine go_iload_n dX5_packedKnown_29 rfl ?_
  exact go_iret dX5_packedKnown_30 rfl rfl rfl
theorem c_unpackKnown_3 {O : gOm} {d : Nat} {m : gMem} {k0 k1 k2 : Nat} (b0 : k0 < 64) (b1 : k1 < 64) (b2 : k2 < 64) : Ca O d kX5_unpackKnown [.ref 3, .int (nI (pk3 k0 k1 k2))] none m (gup (gup (gup m 4 0 (nI k0)) 4 1 (nI k1)) 4 2 (nI k2)) := by
  have hb : pk3 k0 k1 k2 < 262144 := by rw [pk3]; omega
  have e0 : nI (pk3 k0 k1 k2 / 2 ^ (0 * 6)) &&& nI 63 = nI k0 := by rw [nb_and, and_63, pk3]; congr 1; omega
  have e1 : nI (pk3 k0 k1 k2 / 2 ^ (1 * 6)) &&& nI 63 = nI k1 := by rw [nb_and, and_63, pk3]; congr 1; omega
  have e2 : nI (pk3 k0 k1 k2 / 2 ^ (2 * 6)) &&& nI 63 = nI k2 := by rw [nb_and, and_63, pk3]; congr 1; omega
  show Go O d kX5_unpackKnown none _ 0 [.ref 3, .int (nI (pk3 k0 k1 k2)), .null] [] m
  refine go_iconst (nI 0) dX5_unpackKnown_0 (by decide +kernel) ?_
  refine go_istore_n (L' := [_, _, _]) dX5_unpackKnown_1 (by decide) rfl ?_
  skip
  refine go_iload_n dX5_unpackKnown_2 rfl ?_
  refine go_iconst (nI 3) dX5_unpackKnown_3 (by decide +kernel) ?_
  refine go_icmp_ge 28 dX5_unpackKnown_4 (by decide) (fun h => absurd h (nI_ge (by decide) (by decide))) (fun h4 => ?_)
  refine go_aload_n dX5_unpackKnown_7 rfl ?_
  refine go_getc dX5_unpackKnown_8 fX5_9 rfl (by decide) (by decide) (by decide) rfl ?_
  refine go_iload_n dX5_unpackKnown_11 rfl ?_
  refine go_iload_n dX5_unpackKnown_12 rfl ?_
  refine go_iload_n dX5_unpackKnown_13 rfl ?_
  refine go_bipush (nI 6) dX5_unpackKnown_14 (by decide +kernel) ?_
  first | refine go_imul_n dX5_unpackKnown_16 ?_ | refine go_imul dX5_unpackKnown_16 rfl ?_
  refine go_ishr dX5_unpackKnown_17 (nb_shr (by omega) (by decide)) ?_
  refine go_bipush (nI 63) dX5_unpackKnown_18 (by decide +kernel) ?_
  refine go_iand dX5_unpackKnown_20 e0 ?_
  refine go_iast dX5_unpackKnown_21 rfl (by decide) rfl (by decide) (by decide) ?_
  refine go_iinc_n (L' := [_, _, _]) dX5_unpackKnown_22 rfl (by decide) rfl ?_
  refine go_goto 2 dX5_unpackKnown_25 (by decide) ?_
  skip
  refine go_iload_n dX5_unpackKnown_2 rfl ?_
  refine go_iconst (nI 3) dX5_unpackKnown_3 (by decide +kernel) ?_
  refine go_icmp_ge 28 dX5_unpackKnown_4 (by decide) (fun h => absurd h (nI_ge (by decide) (by decide))) (fun h4 => ?_)
  refine go_aload_n dX5_unpackKnown_7 rfl ?_
  refine go_getc dX5_unpackKnown_8 fX5_9 rfl (by decide) (by decide) (by decide) rfl ?_
  refine go_iload_n dX5_unpackKnown_11 rfl ?_
  refine go_iload_n dX5_unpackKnown_12 rfl ?_
  refine go_iload_n dX5_unpackKnown_13 rfl ?_
  refine go_bipush (nI 6) dX5_unpackKnown_14 (by decide +kernel) ?_
  first | refine go_imul_n dX5_unpackKnown_16 ?_ | refine go_imul dX5_unpackKnown_16 rfl ?_
  refine go_ishr dX5_unpackKnown_17 (nb_shr (by omega) (by decide)) ?_
  refine go_bipush (nI 63) dX5_unpackKnown_18 (by decide +kernel) ?_
  refine go_iand dX5_unpackKnown_20 e1 ?_
  refine go_iast dX5_unpackKnown_21 rfl (by decide) rfl (by decide) (by decide) ?_
  refine go_iinc_n (L' := [_, _, _]) dX5_unpackKnown_22 rfl (by decide) rfl ?_
  refine go_goto 2 dX5_unpackKnown_25 (by decide) ?_
  skip
  refine go_iload_n dX5_unpackKnown_2 rfl ?_
  refine go_iconst (nI 3) dX5_unpackKnown_3 (by decide +kernel) ?_
  refine go_icmp_ge 28 dX5_unpackKnown_4 (by decide) (fun h => absurd h (nI_ge (by decide) (by decide))) (fun h4 => ?_)
  refine go_aload_n dX5_unpackKnown_7 rfl ?_
  refine go_getc dX5_unpackKnown_8 fX5_9 rfl (by decide) (by decide) (by decide) rfl ?_
  refine go_iload_n dX5_unpackKnown_11 rfl ?_
  refine go_iload_n dX5_unpackKnown_12 rfl ?_
  refine go_iload_n dX5_unpackKnown_13 rfl ?_
  refine go_bipush (nI 6) dX5_unpackKnown_14 (by decide +kernel) ?_
  first | refine go_imul_n dX5_unpackKnown_16 ?_ | refine go_imul dX5_unpackKnown_16 rfl ?_
  refine go_ishr dX5_unpackKnown_17 (nb_shr (by omega) (by decide)) ?_
  refine go_bipush (nI 63) dX5_unpackKnown_18 (by decide +kernel) ?_
  refine go_iand dX5_unpackKnown_20 e2 ?_
  refine go_iast dX5_unpackKnown_21 rfl (by decide) rfl (by decide) (by decide) ?_
  refine go_iinc_n (L' := [_, _, _]) dX5_unpackKnown_22 rfl (by decide) rfl ?_
  refine go_goto 2 dX5_unpackKnown_25 (by decide) ?_
  skip
  refine go_iload_n dX5_unpackKnown_2 rfl ?_
  refine go_iconst (nI 3) dX5_unpackKnown_3 (by decide +kernel) ?_
  refine go_icmp_ge 28 dX5_unpackKnown_4 (by decide) (fun h4 => ?_) (fun h => absurd (nI_le (by decide) (by decide)) h)
  exact go_vret dX5_unpackKnown_28 rfl rfl rfl
def cpM (m : gMem) (dst src : Nat) : gMem := gup (gupA (gupA (gupA (gupA m (dst + 1) (va_cpy (m.1 (src + 1)) (m.1 (dst + 1)) 0 0 3)) (dst + 2) (va_cpy (m.1 (src + 2)) (m.1 (dst + 2)) 0 0 18)) (dst + 3) (va_cpy (m.1 (src + 3)) (m.1 (dst + 3)) 0 0 18)) (dst + 4) (va_cpy (m.1 (src + 4)) (m.1 (dst + 4)) 0 0 9)) dst 4 (m.1 src 4)
def bgM (m : gMem) (T : Nat) : gMem := gup (gupA (gupA (gupA (gupA m 4 (va_cpy (m.1 (T + 5)) (m.1 4) 0 0 3)) 5 (flP (m.1 5) (nI 0) 18)) 6 (flP (m.1 6) (nI 0) 18)) 7 (flP (m.1 7) (nI 0) 9)) 3 4 (nI 0)
theorem c_copyFrom_8_3 {O : gOm} {d : Nat} {m : gMem} : Ca O (d + 1) kX5_copyFrom [.ref 8, .ref 3] none m (cpM m 8 3) := by
  show Go O (d + 1) kX5_copyFrom none _ 0 [.ref 8, .ref 3] [] m
  refine go_aload_n dX5_copyFrom_0 rfl ?_
  refine go_getc dX5_copyFrom_1 fX5_9 rfl (by decide) (by decide) (by decide) rfl ?_
  refine go_iconst (nI 0) dX5_copyFrom_4 (by decide +kernel) ?_
  refine go_aload_n dX5_copyFrom_5 rfl ?_
  refine go_getc dX5_copyFrom_6 fX5_9 rfl (by decide) (by decide) (by decide) rfl ?_
  refine go_iconst (nI 0) dX5_copyFrom_9 (by decide +kernel) ?_
  refine go_iconst (nI 3) dX5_copyFrom_10 (by decide +kernel) ?_
  refine go_copy dX5_copyFrom_11 mX5_29 gNat gNatS gNatI rfl rfl (by decide) (by decide) rfl rfl rfl (by decide) (by decide) (by decide) (by decide) (Nat.le_of_ble_eq_true rfl) ?_
  refine go_aload_n dX5_copyFrom_14 rfl ?_
  refine go_getc dX5_copyFrom_15 fX5_15 rfl (by decide) (by decide) (by decide) rfl ?_
  refine go_iconst (nI 0) dX5_copyFrom_18 (by decide +kernel) ?_
  refine go_aload_n dX5_copyFrom_19 rfl ?_
  refine go_getc dX5_copyFrom_20 fX5_15 rfl (by decide) (by decide) (by decide) rfl ?_
  refine go_iconst (nI 0) dX5_copyFrom_23 (by decide +kernel) ?_
  refine go_aload_n dX5_copyFrom_24 rfl ?_
  refine go_getc dX5_copyFrom_25 fX5_15 rfl (by decide) (by decide) (by decide) rfl ?_
  refine go_alen dX5_copyFrom_28 rfl (by decide) rfl ?_
  refine go_copy dX5_copyFrom_29 mX5_29 gNat gNatS gNatI rfl rfl (by decide) (by decide) rfl rfl rfl (by decide) (by decide) (by decide) (by decide) (Nat.le_of_ble_eq_true rfl) ?_
  refine go_aload_n dX5_copyFrom_32 rfl ?_
  refine go_getc dX5_copyFrom_33 fX5_18 rfl (by decide) (by decide) (by decide) rfl ?_
  refine go_iconst (nI 0) dX5_copyFrom_36 (by decide +kernel) ?_
  refine go_aload_n dX5_copyFrom_37 rfl ?_
  refine go_getc dX5_copyFrom_38 fX5_18 rfl (by decide) (by decide) (by decide) rfl ?_
  refine go_iconst (nI 0) dX5_copyFrom_41 (by decide +kernel) ?_
  refine go_aload_n dX5_copyFrom_42 rfl ?_
  refine go_getc dX5_copyFrom_43 fX5_18 rfl (by decide) (by decide) (by decide) rfl ?_
  refine go_alen dX5_copyFrom_46 rfl (by decide) rfl ?_
  refine go_copy dX5_copyFrom_47 mX5_29 gNat gNatS gNatI rfl rfl (by decide) (by decide) rfl rfl rfl (by decide) (by decide) (by decide) (by decide) (Nat.le_of_ble_eq_true rfl) ?_
  refine go_aload_n dX5_copyFrom_50 rfl ?_
  refine go_getc dX5_copyFrom_51 fX5_21 rfl (by decide) (by decide) (by decide) rfl ?_
  refine go_iconst (nI 0) dX5_copyFrom_54 (by decide +kernel) ?_
  refine go_aload_n dX5_copyFrom_55 rfl ?_
  refine go_getc dX5_copyFrom_56 fX5_21 rfl (by decide) (by decide) (by decide) rfl ?_
  refine go_iconst (nI 0) dX5_copyFrom_59 (by decide +kernel) ?_
  refine go_aload_n dX5_copyFrom_60 rfl ?_
  refine go_getc dX5_copyFrom_61 fX5_21 rfl (by decide) (by decide) (by decide) rfl ?_
  refine go_alen dX5_copyFrom_64 rfl (by decide) rfl ?_
  refine go_copy dX5_copyFrom_65 mX5_29 gNat gNatS gNatI rfl rfl (by decide) (by decide) rfl rfl rfl (by decide) (by decide) (by decide) (by decide) (Nat.le_of_ble_eq_true rfl) ?_
  refine go_aload_n dX5_copyFrom_68 rfl ?_
  refine go_aload_n dX5_copyFrom_69 rfl ?_
  refine go_geti dX5_copyFrom_70 fX5_41 rfl (by decide) (by decide) (by decide) rfl rfl ?_
  refine go_puti dX5_copyFrom_73 fX5_41 rfl (by decide) (by decide) (by decide) rfl (fun _ _ _ h => by cases h; rfl) (Or.inl rfl) ?_
  exact go_vret dX5_copyFrom_76 rfl rfl rfl
theorem c_copyFrom_14_3 {O : gOm} {d : Nat} {m : gMem} : Ca O (d + 1) kX5_copyFrom [.ref 14, .ref 3] none m (cpM m 14 3) := by
  show Go O (d + 1) kX5_copyFrom none _ 0 [.ref 14, .ref 3] [] m
  refine go_aload_n dX5_copyFrom_0 rfl ?_
  refine go_getc dX5_copyFrom_1 fX5_9 rfl (by decide) (by decide) (by decide) rfl ?_
  refine go_iconst (nI 0) dX5_copyFrom_4 (by decide +kernel) ?_
  refine go_aload_n dX5_copyFrom_5 rfl ?_
  refine go_getc dX5_copyFrom_6 fX5_9 rfl (by decide) (by decide) (by decide) rfl ?_
  refine go_iconst (nI 0) dX5_copyFrom_9 (by decide +kernel) ?_
  refine go_iconst (nI 3) dX5_copyFrom_10 (by decide +kernel) ?_
  refine go_copy dX5_copyFrom_11 mX5_29 gNat gNatS gNatI rfl rfl (by decide) (by decide) rfl rfl rfl (by decide) (by decide) (by decide) (by decide) (Nat.le_of_ble_eq_true rfl) ?_
  refine go_aload_n dX5_copyFrom_14 rfl ?_
  refine go_getc dX5_copyFrom_15 fX5_15 rfl (by decide) (by decide) (by decide) rfl ?_
  refine go_iconst (nI 0) dX5_copyFrom_18 (by decide +kernel) ?_
  refine go_aload_n dX5_copyFrom_19 rfl ?_
  refine go_getc dX5_copyFrom_20 fX5_15 rfl (by decide) (by decide) (by decide) rfl ?_
  refine go_iconst (nI 0) dX5_copyFrom_23 (by decide +kernel) ?_
  refine go_aload_n dX5_copyFrom_24 rfl ?_
  refine go_getc dX5_copyFrom_25 fX5_15 rfl (by decide) (by decide) (by decide) rfl ?_
  refine go_alen dX5_copyFrom_28 rfl (by decide) rfl ?_
  refine go_copy dX5_copyFrom_29 mX5_29 gNat gNatS gNatI rfl rfl (by decide) (by decide) rfl rfl rfl (by decide) (by decide) (by decide) (by decide) (Nat.le_of_ble_eq_true rfl) ?_
  refine go_aload_n dX5_copyFrom_32 rfl ?_
  refine go_getc dX5_copyFrom_33 fX5_18 rfl (by decide) (by decide) (by decide) rfl ?_
  refine go_iconst (nI 0) dX5_copyFrom_36 (by decide +kernel) ?_
  refine go_aload_n dX5_copyFrom_37 rfl ?_
  refine go_getc dX5_copyFrom_38 fX5_18 rfl (by decide) (by decide) (by decide) rfl ?_
  refine go_iconst (nI 0) dX5_copyFrom_41 (by decide +kernel) ?_
  refine go_aload_n dX5_copyFrom_42 rfl ?_
  refine go_getc dX5_copyFrom_43 fX5_18 rfl (by decide) (by decide) (by decide) rfl ?_
  refine go_alen dX5_copyFrom_46 rfl (by decide) rfl ?_
  refine go_copy dX5_copyFrom_47 mX5_29 gNat gNatS gNatI rfl rfl (by decide) (by decide) rfl rfl rfl (by decide) (by decide) (by decide) (by decide) (Nat.le_of_ble_eq_true rfl) ?_
  refine go_aload_n dX5_copyFrom_50 rfl ?_
  refine go_getc dX5_copyFrom_51 fX5_21 rfl (by decide) (by decide) (by decide) rfl ?_
  refine go_iconst (nI 0) dX5_copyFrom_54 (by decide +kernel) ?_
  refine go_aload_n dX5_copyFrom_55 rfl ?_
  refine go_getc dX5_copyFrom_56 fX5_21 rfl (by decide) (by decide) (by decide) rfl ?_
  refine go_iconst (nI 0) dX5_copyFrom_59 (by decide +kernel) ?_
  refine go_aload_n dX5_copyFrom_60 rfl ?_
  refine go_getc dX5_copyFrom_61 fX5_21 rfl (by decide) (by decide) (by decide) rfl ?_
  refine go_alen dX5_copyFrom_64 rfl (by decide) rfl ?_
  refine go_copy dX5_copyFrom_65 mX5_29 gNat gNatS gNatI rfl rfl (by decide) (by decide) rfl rfl rfl (by decide) (by decide) (by decide) (by decide) (Nat.le_of_ble_eq_true rfl) ?_
  refine go_aload_n dX5_copyFrom_68 rfl ?_
  refine go_aload_n dX5_copyFrom_69 rfl ?_
  refine go_geti dX5_copyFrom_70 fX5_41 rfl (by decide) (by decide) (by decide) rfl rfl ?_
  refine go_puti dX5_copyFrom_73 fX5_41 rfl (by decide) (by decide) (by decide) rfl (fun _ _ _ h => by cases h; rfl) (Or.inl rfl) ?_
  exact go_vret dX5_copyFrom_76 rfl rfl rfl
theorem c_copyFrom_19_3 {O : gOm} {d : Nat} {m : gMem} : Ca O (d + 1) kX5_copyFrom [.ref 19, .ref 3] none m (cpM m 19 3) := by
  show Go O (d + 1) kX5_copyFrom none _ 0 [.ref 19, .ref 3] [] m
  refine go_aload_n dX5_copyFrom_0 rfl ?_
  refine go_getc dX5_copyFrom_1 fX5_9 rfl (by decide) (by decide) (by decide) rfl ?_
  refine go_iconst (nI 0) dX5_copyFrom_4 (by decide +kernel) ?_
  refine go_aload_n dX5_copyFrom_5 rfl ?_
  refine go_getc dX5_copyFrom_6 fX5_9 rfl (by decide) (by decide) (by decide) rfl ?_
  refine go_iconst (nI 0) dX5_copyFrom_9 (by decide +kernel) ?_
  refine go_iconst (nI 3) dX5_copyFrom_10 (by decide +kernel) ?_
  refine go_copy dX5_copyFrom_11 mX5_29 gNat gNatS gNatI rfl rfl (by decide) (by decide) rfl rfl rfl (by decide) (by decide) (by decide) (by decide) (Nat.le_of_ble_eq_true rfl) ?_
  refine go_aload_n dX5_copyFrom_14 rfl ?_
  refine go_getc dX5_copyFrom_15 fX5_15 rfl (by decide) (by decide) (by decide) rfl ?_
  refine go_iconst (nI 0) dX5_copyFrom_18 (by decide +kernel) ?_
  refine go_aload_n dX5_copyFrom_19 rfl ?_
  refine go_getc dX5_copyFrom_20 fX5_15 rfl (by decide) (by decide) (by decide) rfl ?_
  refine go_iconst (nI 0) dX5_copyFrom_23 (by decide +kernel) ?_
  refine go_aload_n dX5_copyFrom_24 rfl ?_
  refine go_getc dX5_copyFrom_25 fX5_15 rfl (by decide) (by decide) (by decide) rfl ?_
  refine go_alen dX5_copyFrom_28 rfl (by decide) rfl ?_
  refine go_copy dX5_copyFrom_29 mX5_29 gNat gNatS gNatI rfl rfl (by decide) (by decide) rfl rfl rfl (by decide) (by decide) (by decide) (by decide) (Nat.le_of_ble_eq_true rfl) ?_
  refine go_aload_n dX5_copyFrom_32 rfl ?_
  refine go_getc dX5_copyFrom_33 fX5_18 rfl (by decide) (by decide) (by decide) rfl ?_
  refine go_iconst (nI 0) dX5_copyFrom_36 (by decide +kernel) ?_
  refine go_aload_n dX5_copyFrom_37 rfl ?_
  refine go_getc dX5_copyFrom_38 fX5_18 rfl (by decide) (by decide) (by decide) rfl ?_
  refine go_iconst (nI 0) dX5_copyFrom_41 (by decide +kernel) ?_
  refine go_aload_n dX5_copyFrom_42 rfl ?_
  refine go_getc dX5_copyFrom_43 fX5_18 rfl (by decide) (by decide) (by decide) rfl ?_
  refine go_alen dX5_copyFrom_46 rfl (by decide) rfl ?_
  refine go_copy dX5_copyFrom_47 mX5_29 gNat gNatS gNatI rfl rfl (by decide) (by decide) rfl rfl rfl (by decide) (by decide) (by decide) (by decide) (Nat.le_of_ble_eq_true rfl) ?_
  refine go_aload_n dX5_copyFrom_50 rfl ?_
  refine go_getc dX5_copyFrom_51 fX5_21 rfl (by decide) (by decide) (by decide) rfl ?_
  refine go_iconst (nI 0) dX5_copyFrom_54 (by decide +kernel) ?_
  refine go_aload_n dX5_copyFrom_55 rfl ?_
  refine go_getc dX5_copyFrom_56 fX5_21 rfl (by decide) (by decide) (by decide) rfl ?_
  refine go_iconst (nI 0) dX5_copyFrom_59 (by decide +kernel) ?_
  refine go_aload_n dX5_copyFrom_60 rfl ?_
  refine go_getc dX5_copyFrom_61 fX5_21 rfl (by decide) (by decide) (by decide) rfl ?_
  refine go_alen dX5_copyFrom_64 rfl (by decide) rfl ?_
  refine go_copy dX5_copyFrom_65 mX5_29 gNat gNatS gNatI rfl rfl (by decide) (by decide) rfl rfl rfl (by decide) (by decide) (by decide) (by decide) (Nat.le_of_ble_eq_true rfl) ?_
  refine go_aload_n dX5_copyFrom_68 rfl ?_
  refine go_aload_n dX5_copyFrom_69 rfl ?_
  refine go_geti dX5_copyFrom_70 fX5_41 rfl (by decide) (by decide) (by decide) rfl rfl ?_
  refine go_puti dX5_copyFrom_73 fX5_41 rfl (by decide) (by decide) (by decide) rfl (fun _ _ _ h => by cases h; rfl) (Or.inl rfl) ?_
  exact go_vret dX5_copyFrom_76 rfl rfl rfl
theorem c_copyFrom_3_14 {O : gOm} {d : Nat} {m : gMem} : Ca O (d + 1) kX5_copyFrom [.ref 3, .ref 14] none m (cpM m 3 14) := by
  show Go O (d + 1) kX5_copyFrom none _ 0 [.ref 3, .ref 14] [] m
  refine go_aload_n dX5_copyFrom_0 rfl ?_
  refine go_getc dX5_copyFrom_1 fX5_9 rfl (by decide) (by decide) (by decide) rfl ?_
  refine go_iconst (nI 0) dX5_copyFrom_4 (by decide +kernel) ?_
  refine go_aload_n dX5_copyFrom_5 rfl ?_
  refine go_getc dX5_copyFrom_6 fX5_9 rfl (by decide) (by decide) (by decide) rfl ?_
  refine go_iconst (nI 0) dX5_copyFrom_9 (by decide +kernel) ?_
  refine go_iconst (nI 3) dX5_copyFrom_10 (by decide +kernel) ?_
  refine go_copy dX5_copyFrom_11 mX5_29 gNat gNatS gNatI rfl rfl (by decide) (by decide) rfl rfl rfl (by decide) (by decide) (by decide) (by decide) (Nat.le_of_ble_eq_true rfl) ?_
  refine go_aload_n dX5_copyFrom_14 rfl ?_
  refine go_getc dX5_copyFrom_15 fX5_15 rfl (by decide) (by decide) (by decide) rfl ?_
  refine go_iconst (nI 0) dX5_copyFrom_18 (by decide +kernel) ?_
  refine go_aload_n dX5_copyFrom_19 rfl ?_
  refine go_getc dX5_copyFrom_20 fX5_15 rfl (by decide) (by decide) (by decide) rfl ?_
  refine go_iconst (nI 0) dX5_copyFrom_23 (by decide +kernel) ?_
  refine go_aload_n dX5_copyFrom_24 rfl ?_
  refine go_getc dX5_copyFrom_25 fX5_15 rfl (by decide) (by decide) (by decide) rfl ?_
  refine go_alen dX5_copyFrom_28 rfl (by decide) rfl ?_
  refine go_copy dX5_copyFrom_29 mX5_29 gNat gNatS gNatI rfl rfl (by decide) (by decide) rfl rfl rfl (by decide) (by decide) (by decide) (by decide) (Nat.le_of_ble_eq_true rfl) ?_
  refine go_aload_n dX5_copyFrom_32 rfl ?_
  refine go_getc dX5_copyFrom_33 fX5_18 rfl (by decide) (by decide) (by decide) rfl ?_
  refine go_iconst (nI 0) dX5_copyFrom_36 (by decide +kernel) ?_
  refine go_aload_n dX5_copyFrom_37 rfl ?_
  refine go_getc dX5_copyFrom_38 fX5_18 rfl (by decide) (by decide) (by decide) rfl ?_
  refine go_iconst (nI 0) dX5_copyFrom_41 (by decide +kernel) ?_
  refine go_aload_n dX5_copyFrom_42 rfl ?_
  refine go_getc dX5_copyFrom_43 fX5_18 rfl (by decide) (by decide) (by decide) rfl ?_
  refine go_alen dX5_copyFrom_46 rfl (by decide) rfl ?_
  refine go_copy dX5_copyFrom_47 mX5_29 gNat gNatS gNatI rfl rfl (by decide) (by decide) rfl rfl rfl (by decide) (by decide) (by decide) (by decide) (Nat.le_of_ble_eq_true rfl) ?_
  refine go_aload_n dX5_copyFrom_50 rfl ?_
  refine go_getc dX5_copyFrom_51 fX5_21 rfl (by decide) (by decide) (by decide) rfl ?_
  refine go_iconst (nI 0) dX5_copyFrom_54 (by decide +kernel) ?_
  refine go_aload_n dX5_copyFrom_55 rfl ?_
  refine go_getc dX5_copyFrom_56 fX5_21 rfl (by decide) (by decide) (by decide) rfl ?_
  refine go_iconst (nI 0) dX5_copyFrom_59 (by decide +kernel) ?_
  refine go_aload_n dX5_copyFrom_60 rfl ?_
  refine go_getc dX5_copyFrom_61 fX5_21 rfl (by decide) (by decide) (by decide) rfl ?_
  refine go_alen dX5_copyFrom_64 rfl (by decide) rfl ?_
  refine go_copy dX5_copyFrom_65 mX5_29 gNat gNatS gNatI rfl rfl (by decide) (by decide) rfl rfl rfl (by decide) (by decide) (by decide) (by decide) (Nat.le_of_ble_eq_true rfl) ?_
  refine go_aload_n dX5_copyFrom_68 rfl ?_
  refine go_aload_n dX5_copyFrom_69 rfl ?_
  refine go_geti dX5_copyFrom_70 fX5_41 rfl (by decide) (by decide) (by decide) rfl rfl ?_
  refine go_puti dX5_copyFrom_73 fX5_41 rfl (by decide) (by decide) (by decide) rfl (fun _ _ _ h => by cases h; rfl) (Or.inl rfl) ?_
  exact go_vret dX5_copyFrom_76 rfl rfl rfl
theorem c_copyFrom_3_19 {O : gOm} {d : Nat} {m : gMem} : Ca O (d + 1) kX5_copyFrom [.ref 3, .ref 19] none m (cpM m 3 19) := by
  show Go O (d + 1) kX5_copyFrom none _ 0 [.ref 3, .ref 19] [] m
  refine go_aload_n dX5_copyFrom_0 rfl ?_
  refine go_getc dX5_copyFrom_1 fX5_9 rfl (by decide) (by decide) (by decide) rfl ?_
  refine go_iconst (nI 0) dX5_copyFrom_4 (by decide +kernel) ?_
  refine go_aload_n dX5_copyFrom_5 rfl ?_
  refine go_getc dX5_copyFrom_6 fX5_9 rfl (by decide) (by decide) (by decide) rfl ?_
  refine go_iconst (nI 0) dX5_copyFrom_9 (by decide +kernel) ?_
  refine go_iconst (nI 3) dX5_copyFrom_10 (by decide +kernel) ?_
  refine go_copy dX5_copyFrom_11 mX5_29 gNat gNatS gNatI rfl rfl (by decide) (by decide) rfl rfl rfl (by decide) (by decide) (by decide) (by decide) (Nat.le_of_ble_eq_true rfl) ?_
  refine go_aload_n dX5_copyFrom_14 rfl ?_
  refine go_getc dX5_copyFrom_15 fX5_15 rfl (by decide) (by decide) (by decide) rfl ?_
  refine go_iconst (nI 0) dX5_copyFrom_18 (by decide +kernel) ?_
  refine go_aload_n dX5_copyFrom_19 rfl ?_
  refine go_getc dX5_copyFrom_20 fX5_15 rfl (by decide) (by decide) (by decide) rfl ?_
  refine go_iconst (nI 0) dX5_copyFrom_23 (by decide +kernel) ?_
  refine go_aload_n dX5_copyFrom_24 rfl ?_
  refine go_getc dX5_copyFrom_25 fX5_15 rfl (by decide) (by decide) (by decide) rfl ?_
  refine go_alen dX5_copyFrom_28 rfl (by decide) rfl ?_
  refine go_copy dX5_copyFrom_29 mX5_29 gNat gNatS gNatI rfl rfl (by decide) (by decide) rfl rfl rfl (by decide) (by decide) (by decide) (by decide) (Nat.le_of_ble_eq_true rfl) ?_
  refine go_aload_n dX5_copyFrom_32 rfl ?_
  refine go_getc dX5_copyFrom_33 fX5_18 rfl (by decide) (by decide) (by decide) rfl ?_
  refine go_iconst (nI 0) dX5_copyFrom_36 (by decide +kernel) ?_
  refine go_aload_n dX5_copyFrom_37 rfl ?_
  refine go_getc dX5_copyFrom_38 fX5_18 rfl (by decide) (by decide) (by decide) rfl ?_
  refine go_iconst (nI 0) dX5_copyFrom_41 (by decide +kernel) ?_
  refine go_aload_n dX5_copyFrom_42 rfl ?_
  refine go_getc dX5_copyFrom_43 fX5_18 rfl (by decide) (by decide) (by decide) rfl ?_
  refine go_alen dX5_copyFrom_46 rfl (by decide) rfl ?_
  refine go_copy dX5_copyFrom_47 mX5_29 gNat gNatS gNatI rfl rfl (by decide) (by decide) rfl rfl rfl (by decide) (by decide) (by decide) (by decide) (Nat.le_of_ble_eq_true rfl) ?_
  refine go_aload_n dX5_copyFrom_50 rfl ?_
  refine go_getc dX5_copyFrom_51 fX5_21 rfl (by decide) (by decide) (by decide) rfl ?_
  refine go_iconst (nI 0) dX5_copyFrom_54 (by decide +kernel) ?_
  refine go_aload_n dX5_copyFrom_55 rfl ?_
  refine go_getc dX5_copyFrom_56 fX5_21 rfl (by decide) (by decide) (by decide) rfl ?_
  refine go_iconst (nI 0) dX5_copyFrom_59 (by decide +kernel) ?_
  refine go_aload_n dX5_copyFrom_60 rfl ?_
  refine go_getc dX5_copyFrom_61 fX5_21 rfl (by decide) (by decide) (by decide) rfl ?_
  refine go_alen dX5_copyFrom_64 rfl (by decide) rfl ?_
  refine go_copy dX5_copyFrom_65 mX5_29 gNat gNatS gNatI rfl rfl (by decide) (by decide) rfl rfl rfl (by decide) (by decide) (by decide) (by decide) (Nat.le_of_ble_eq_true rfl) ?_
  refine go_aload_n dX5_copyFrom_68 rfl ?_
  refine go_aload_n dX5_copyFrom_69 rfl ?_
  refine go_geti dX5_copyFrom_70 fX5_41 rfl (by decide) (by decide) (by decide) rfl rfl ?_
  refine go_puti dX5_copyFrom_73 fX5_41 rfl (by decide) (by decide) (by decide) rfl (fun _ _ _ h => by cases h; rfl) (Or.inl rfl) ?_
  exact go_vret dX5_copyFrom_76 rfl rfl rfl
theorem c_beginWith_29 {O : gOm} {d : Nat} {m : gMem} : Ca O (d + 1) kX5_beginWith [.ref 3, .ref 29] none m (bgM m 29) := by
  show Go O (d + 1) kX5_beginWith none _ 0 [.ref 3, .ref 29] [] m
  refine go_aload_n dX5_beginWith_0 rfl ?_
  refine go_getc dX5_beginWith_1 fX5_24 rfl (by decide) (by decide) (by decide) rfl ?_
  refine go_iconst (nI 0) dX5_beginWith_4 (by decide +kernel) ?_
  refine go_aload_n dX5_beginWith_5 rfl ?_
  refine go_getc dX5_beginWith_6 fX5_9 rfl (by decide) (by decide) (by decide) rfl ?_
  refine go_iconst (nI 0) dX5_beginWith_9 (by decide +kernel) ?_
  refine go_iconst (nI 3) dX5_beginWith_10 (by decide +kernel) ?_
  refine go_copy dX5_beginWith_11 mX5_29 gNat gNatS gNatI rfl rfl (by decide) (by decide) rfl rfl rfl (by decide) (by decide) (by decide) (by decide) (Nat.le_of_ble_eq_true rfl) ?_
  refine go_aload_n dX5_beginWith_14 rfl ?_
  refine go_getc dX5_beginWith_15 fX5_15 rfl (by decide) (by decide) (by decide) rfl ?_
  refine go_iconst (nI 0) dX5_beginWith_18 (by decide +kernel) ?_
  refine go_callS0 (K' := kJ7_fill_53178) [_, _] dX5_beginWith_19 mX5_35 lJ7_fill_53178 rfl rfl (Nat.le_of_ble_eq_true rfl) (Nat.le_of_ble_eq_true rfl) (c_fill rfl (by decide) (by decide)) ?_
  refine go_aload_n dX5_beginWith_22 rfl ?_
  refine go_getc dX5_beginWith_23 fX5_18 rfl (by decide) (by decide) (by decide) rfl ?_
  refine go_iconst (nI 0) dX5_beginWith_26 (by decide +kernel) ?_
  refine go_callS0 (K' := kJ7_fill_53178) [_, _] dX5_beginWith_27 mX5_35 lJ7_fill_53178 rfl rfl (Nat.le_of_ble_eq_true rfl) (Nat.le_of_ble_eq_true rfl) (c_fill rfl (by decide) (by decide)) ?_
  refine go_aload_n dX5_beginWith_30 rfl ?_
  refine go_getc dX5_beginWith_31 fX5_21 rfl (by decide) (by decide) (by decide) rfl ?_
  refine go_iconst (nI 0) dX5_beginWith_34 (by decide +kernel) ?_
  refine go_callS0 (K' := kJ7_fill_53178) [_, _] dX5_beginWith_35 mX5_35 lJ7_fill_53178 rfl rfl (Nat.le_of_ble_eq_true rfl) (Nat.le_of_ble_eq_true rfl) (c_fill rfl (by decide) (by decide)) ?_
  refine go_aload_n dX5_beginWith_38 rfl ?_
  refine go_iconst (nI 0) dX5_beginWith_39 (by decide +kernel) ?_
  refine go_puti dX5_beginWith_40 fX5_41 rfl (by decide) (by decide) (by decide) rfl (fun _ _ _ h => by cases h; rfl) (Or.inl rfl) ?_
  exact go_vret dX5_beginWith_43 rfl rfl rfl
theorem c_beginWith_35 {O : gOm} {d : Nat} {m : gMem} : Ca O (d + 1) kX5_beginWith [.ref 3, .ref 35] none m (bgM m 35) := by
  show Go O (d + 1) kX5_beginWith none _ 0 [.ref 3, .ref 35] [] m
  refine go_aload_n dX5_beginWith_0 rfl ?_
  refine go_getc dX5_beginWith_1 fX5_24 rfl (by decide) (by decide) (by decide) rfl ?_
  refine go_iconst (nI 0) dX5_beginWith_4 (by decide +kernel) ?_
  refine go_aload_n dX5_beginWith_5 rfl ?_
  refine go_getc dX5_beginWith_6 fX5_9 rfl (by decide) (by decide) (by decide) rfl ?_
  refine go_iconst (nI 0) dX5_beginWith_9 (by decide +kernel) ?_
  refine go_iconst (nI 3) dX5_beginWith_10 (by decide +kernel) ?_
  refine go_copy dX5_beginWith_11 mX5_29 gNat gNatS gNatI rfl rfl (by decide) (by decide) rfl rfl rfl (by decide) (by decide) (by decide) (by decide) (Nat.le_of_ble_eq_true rfl) ?_
  refine go_aload_n dX5_beginWith_14 rfl ?_
  refine go_getc dX5_beginWith_15 fX5_15 rfl (by decide) (by decide) (by decide) rfl ?_
  refine go_iconst (nI 0) dX5_beginWith_18 (by decide +kernel) ?_
  refine go_callS0 (K' := kJ7_fill_53178) [_, _] dX5_beginWith_19 mX5_35 lJ7_fill_53178 rfl rfl (Nat.le_of_ble_eq_true rfl) (Nat.le_of_ble_eq_true rfl) (c_fill rfl (by decide) (by decide)) ?_
  refine go_aload_n dX5_beginWith_22 rfl ?_
  refine go_getc dX5_beginWith_23 fX5_18 rfl (by decide) (by decide) (by decide) rfl ?_
  refine go_iconst (nI 0) dX5_beginWith_26 (by decide +kernel) ?_
  refine go_callS0 (K' := kJ7_fill_53178) [_, _] dX5_beginWith_27 mX5_35 lJ7_fill_53178 rfl rfl (Nat.le_of_ble_eq_true rfl) (Nat.le_of_ble_eq_true rfl) (c_fill rfl (by decide) (by decide)) ?_
  refine go_aload_n dX5_beginWith_30 rfl ?_
  refine go_getc dX5_beginWith_31 fX5_21 rfl (by decide) (by decide) (by decide) rfl ?_
  refine go_iconst (nI 0) dX5_beginWith_34 (by decide +kernel) ?_
  refine go_callS0 (K' := kJ7_fill_53178) [_, _] dX5_beginWith_35 mX5_35 lJ7_fill_53178 rfl rfl (Nat.le_of_ble_eq_true rfl) (Nat.le_of_ble_eq_true rfl) (c_fill rfl (by decide) (by decide)) ?_
  refine go_aload_n dX5_beginWith_38 rfl ?_
  refine go_iconst (nI 0) dX5_beginWith_39 (by decide +kernel) ?_
  refine go_puti dX5_beginWith_40 fX5_41 rfl (by decide) (by decide) (by decide) rfl (fun _ _ _ h => by cases h; rfl) (Or.inl rfl) ?_
  exact go_vret dX5_beginWith_43 rfl rfl rfl
/-- a telling's number: who, what, and who knew what ahead of it -/
def tcN (p n q : Nat) : Nat := (n * 8 + p) * 262144 + q
theorem tcN_lt {p n q : Nat} (hp : p < 6) (hn : n < 3) (hq : q < 262144) : tcN p n q < 2 ^ 23 := by rw [tcN]; omega
theorem and_7 (a : Nat) : a &&& 7 = a % 8 := Nat.and_two_pow_sub_one_eq_mod a 3
theorem and_18 (a : Nat) : a &&& 262143 = a % 262144 := Nat.and_two_pow_sub_one_eq_mod a 18
theorem c_telling {O : gOm} {d : Nat} {m : gMem} {p n q : Nat} (hp : p < 6) (hn : n < 3) (hq : q < 262144) : Ca O d kX0_telling [.int (nI p), .int (nI n), .int (nI q)] (some (.int (nI (tcN p n q)))) m m := by
  have e4 : nI (n * 2 ^ 3) ||| nI p = nI (n * 8 + p) := by rw [nb_or, Nat.or_comm, or_add (by omega)]; congr 1; omega
  have e9 : nI ((n * 8 + p) * 2 ^ 18) ||| nI q = nI (tcN p n q) := by rw [nb_or, Nat.or_comm, or_add (by omega), tcN]; congr 1; omega
  show Go O d kX0_telling _ m 0 [.int (nI p), .int (nI n), .int (nI q)] [] m
  refine go_iload_n dX0_telling_0 rfl ?_
  refine go_iconst (nI 3) dX0_telling_1 (by decide +kernel) ?_
  refine go_ishl dX0_telling_2 (nb_shl (by decide) (by omega)) ?_
  refine go_iload_n dX0_telling_3 rfl ?_
  refine go_ior dX0_telling_4 e4 ?_
  refine go_bipush (nI 18) dX0_telling_5 (by decide +kernel) ?_
  refine go_ishl dX0_telling_7 (nb_shl (by decide) (by omega)) ?_
  refine go_iload_n dX0_telling_8 rfl ?_
  refine go_ior dX0_telling_9 e9 ?_
  exact go_iret dX0_telling_10 rfl rfl rfl
theorem c_teller {O : gOm} {d : Nat} {m : gMem} {p n q : Nat} (hp : p < 6) (hn : n < 3) (hq : q < 262144) : Ca O d kX0_teller [.int (nI (tcN p n q))] (some (.int (nI p))) m m := by
  have hb := tcN_lt hp hn hq
  have e6 : nI (tcN p n q / 2 ^ 18) &&& nI 7 = nI p := by rw [nb_and, and_7, tcN]; congr 1; omega
  show Go O d kX0_teller _ m 0 [.int (nI (tcN p n q))] [] m
  refine go_iload_n dX0_teller_0 rfl ?_
  refine go_bipush (nI 18) dX0_teller_1 (by decide +kernel) ?_
  refine go_ishr dX0_teller_3 (nb_shr (by omega) (by decide)) ?_
  refine go_bipush (nI 7) dX0_teller_4 (by decide +kernel) ?_
  refine go_iand dX0_teller_6 e6 ?_
  exact go_iret dX0_teller_7 rfl rfl rfl
theorem c_newsOf {O : gOm} {d : Nat} {m : gMem} {p n q : Nat} (hp : p < 6) (hn : n < 3) (hq : q < 262144) : Ca O d kX0_newsOf [.int (nI (tcN p n q))] (some (.int (nI n))) m m := by
  have hb := tcN_lt hp hn hq
  have e3 : nI (tcN p n q) >>> (nI 21 &&& 31) = nI n := by rw [nb_shr (by omega) (by decide), tcN]; congr 1; omega
  show Go O d kX0_newsOf _ m 0 [.int (nI (tcN p n q))] [] m
  refine go_iload_n dX0_newsOf_0 rfl ?_
  refine go_bipush (nI 21) dX0_newsOf_1 (by decide +kernel) ?_
  refine go_ishr dX0_newsOf_3 e3 ?_
  exact go_iret dX0_newsOf_4 rfl rfl rfl
theorem c_packedOf {O : gOm} {d : Nat} {m : gMem} {p n q : Nat} (hp : p < 6) (hn : n < 3) (hq : q < 262144) : Ca O d kX0_packedKnown [.int (nI (tcN p n q))] (some (.int (nI q))) m m := by
  have e3 : nI (tcN p n q) &&& (262143 : Int32) = nI q := by
    have : (262143 : Int32) = nI 262143 := rfl
    rw [this, nb_and, and_18, tcN]; congr 1; omega
  show Go O d kX0_packedKnown _ m 0 [.int (nI (tcN p n q))] [] m
  refine go_iload_n dX0_packedKnown_0 rfl ?_
  refine go_ldc kcX0_15 dX0_packedKnown_1 ?_
  refine go_iand dX0_packedKnown_3 e3 ?_
  exact go_iret dX0_packedKnown_4 rfl rfl rfl
/-- an act comes behind the row; when it is full the first one goes -/
def apM (m : gMem) (c : Nat) (x : Int32) : gMem := if c < 16 then gup (gup m 25 c x) 24 1 (nI (c + 1)) else gup (gup (gup (gupA m 25 (va_cpy (m.1 25) (m.1 25) 1 0 15)) 24 1 (nI 15)) 25 15 x) 24 1 (nI 16)
theorem c_append {O : gOm} {d : Nat} {m : gMem} {c : Nat} {x : Int32} (hc : m.1 24 1 = nI c) (hc6 : c ≤ 16) : Ca O (d + 1) kX0_append [.ref 24, .int x] none m (apM m c x) := by
  show Go O (d + 1) kX0_append none _ 0 [.ref 24, .int x] [] m
  refine go_aload_n dX0_append_0 rfl ?_
  refine go_geti dX0_append_1 fX0_16 rfl (by decide) (by decide) (by decide) rfl hc ?_
  refine go_bipush (nI 16) dX0_append_4 (by decide +kernel) ?_
  rcases Nat.lt_or_ge c 16 with z | z
  · refine go_icmp_lt 30 dX0_append_6 (by decide) (fun h6 => ?_) (fun h => absurd (nI_lt z (by omega)) h)
    rw [show apM m c x = gup (gup m 25 c x) 24 1 (nI (c + 1)) from if_pos z]
    refine go_aload_n dX0_append_30 rfl ?_
    refine go_getc dX0_append_31 fX0_9 rfl (by decide) (by decide) (by decide) rfl ?_
    refine go_aload_n dX0_append_34 rfl ?_
    refine go_geti dX0_append_35 fX0_16 rfl (by decide) (by decide) (by decide) rfl hc ?_
    refine go_iload_n dX0_append_38 rfl ?_
    refine go_iast dX0_append_39 rfl (by decide) rfl (by omega) (by decide) ?_
    refine go_aload_n dX0_append_40 rfl ?_
    refine go_dup dX0_append_41 rfl ?_
    refine go_geti dX0_append_42 fX0_16 rfl (by decide) (by decide) (by decide) rfl hc ?_
    refine go_iconst (nI 1) dX0_append_45 (by decide +kernel) ?_
    first | refine go_iadd_n dX0_append_46 ?_ | refine go_iadd dX0_append_46 rfl ?_
    refine go_puti dX0_append_47 fX0_16 rfl (by decide) (by decide) (by decide) rfl (fun _ _ _ h => by cases h; rfl) (Or.inl rfl) ?_
    exact go_vret dX0_append_50 rfl rfl rfl
  · refine go_icmp_lt 30 dX0_append_6 (by decide) (fun h => absurd h (nI_nlt z (by omega))) (fun h6 => ?_)
    rw [show apM m c x = gup (gup (gup (gupA m 25 (va_cpy (m.1 25) (m.1 25) 1 0 15)) 24 1 (nI 15)) 25 15 x) 24 1 (nI 16) from if_neg (by omega)]
    refine go_aload_n dX0_append_9 rfl ?_
    refine go_getc dX0_append_10 fX0_9 rfl (by decide) (by decide) (by decide) rfl ?_
    refine go_iconst (nI 1) dX0_append_13 (by decide +kernel) ?_
    refine go_aload_n dX0_append_14 rfl ?_
    refine go_getc dX0_append_15 fX0_9 rfl (by decide) (by decide) (by decide) rfl ?_
    refine go_iconst (nI 0) dX0_append_18 (by decide +kernel) ?_
    refine go_bipush (nI 15) dX0_append_19 (by decide +kernel) ?_
    refine go_copy dX0_append_21 mX0_20 gNat gNatS gNatI rfl rfl (by decide) (by decide) rfl rfl rfl (by decide) (by decide) (by decide) (by decide) (Nat.le_of_ble_eq_true rfl) ?_
    refine go_aload_n dX0_append_24 rfl ?_
    refine go_bipush (nI 15) dX0_append_25 (by decide +kernel) ?_
    refine go_puti dX0_append_27 fX0_16 rfl (by decide) (by decide) (by decide) rfl (fun _ _ _ h => by cases h; rfl) (Or.inl rfl) ?_
    refine go_aload_n dX0_append_30 rfl ?_
    refine go_getc dX0_append_31 fX0_9 rfl (by decide) (by decide) (by decide) rfl ?_
    refine go_aload_n dX0_append_34 rfl ?_
    refine go_geti dX0_append_35 fX0_16 rfl (by decide) (by decide) (by decide) rfl (gup_s _ 24 1 (nI 15)) ?_
    refine go_iload_n dX0_append_38 rfl ?_
    refine go_iast dX0_append_39 rfl (by decide) rfl (by decide) (by decide) ?_
    refine go_aload_n dX0_append_40 rfl ?_
    refine go_dup dX0_append_41 rfl ?_
    refine go_geti dX0_append_42 fX0_16 rfl (by decide) (by decide) (by decide) rfl (Eq.refl (nI 15)) ?_
    refine go_iconst (nI 1) dX0_append_45 (by decide +kernel) ?_
    first | refine go_iadd_n dX0_append_46 ?_ | refine go_iadd dX0_append_46 rfl ?_
    refine go_puti dX0_append_47 fX0_16 rfl (by decide) (by decide) (by decide) rfl (fun _ _ _ h => by cases h; rfl) (Or.inl rfl) ?_
    exact go_vret dX0_append_50 rfl rfl rfl
theorem c_takeLast {O : gOm} {d : Nat} {m : gMem} {c : Nat} (hc : m.1 24 1 = nI (c + 1)) (hc6 : c < 16) : Ca O (d + 1) kX0_takeLast [.ref 24] (some (.int (m.1 25 c))) m (gup m 24 1 (nI c)) := by
  have e8 : (if nI c < nI 0 then nI 0 else nI c) = nI c := if_neg (nI_nlt (by omega) (by omega))
  show Go O (d + 1) kX0_takeLast _ _ 0 [.ref 24] [] m
  refine go_aload_n dX0_takeLast_0 rfl ?_
  refine go_aload_n dX0_takeLast_1 rfl ?_
  refine go_geti dX0_takeLast_2 fX0_16 rfl (by decide) (by decide) (by decide) rfl hc ?_
  refine go_iconst (nI 1) dX0_takeLast_5 (by decide +kernel) ?_
  refine go_isub dX0_takeLast_6 (pk_sub (by omega)) ?_
  refine go_iconst (nI 0) dX0_takeLast_7 (by decide +kernel) ?_
  refine go_mmax dX0_takeLast_8 mX0_26 (Nat.le_of_ble_eq_true rfl) e8 ?_
  refine go_puti dX0_takeLast_11 fX0_16 rfl (by decide) (by decide) (by decide) rfl (fun _ _ _ h => by cases h; rfl) (Or.inl rfl) ?_
  refine go_aload_n dX0_takeLast_14 rfl ?_
  refine go_getc dX0_takeLast_15 fX0_9 rfl (by decide) (by decide) (by decide) rfl ?_
  refine go_aload_n dX0_takeLast_18 rfl ?_
  refine go_geti dX0_takeLast_19 fX0_16 rfl (by decide) (by decide) (by decide) rfl (gup_s _ 24 1 (nI c)) ?_
  refine go_iald dX0_takeLast_22 rfl (by decide) rfl (by omega) (by decide) rfl ?_
  exact go_iret dX0_takeLast_23 rfl rfl rfl
def seM (m : gMem) (h p c : Nat) (kn : Bool) : gMem := gup (gup m (bif kn then 27 else 28) h (m.1 (bif kn then 27 else 28) h ||| nI (2 ^ p))) 26 2 (nI (c + 1))
theorem c_see {O : gOm} {d : Nat} {m : gMem} {h p c : Nat} {kn : Bool} (hh : h < 6) (hp : p < 6) (hc : m.1 26 2 = nI c) : Ca O d kX4_see [.ref 26, .int (nI h), .int (nI p), .int (bI kn)] none m (seM m h p c kn) := by
  have e1 : nI 1 <<< (nI p &&& 31) = nI (2 ^ p) := nb_one (by omega)
  show Go O d kX4_see none _ 0 [.ref 26, .int (nI h), .int (nI p), .int (bI kn)] [] m
  cases kn with
  | false =>
    refine go_iload_n dX4_see_0 rfl ?_
    refine go_if_eq 19 dX4_see_1 (by decide) (fun h1 => ?_) (fun h => absurd (rfl) h)
    refine go_aload_n dX4_see_19 rfl ?_
    refine go_getc dX4_see_20 fX4_15 rfl (by decide) (by decide) (by decide) rfl ?_
    refine go_iload_n dX4_see_23 rfl ?_
    refine go_dup2 dX4_see_24 rfl rfl ?_
    refine go_iald dX4_see_25 rfl (by decide) rfl (by omega) (by decide) rfl ?_
    refine go_iconst (nI 1) dX4_see_26 (by decide +kernel) ?_
    refine go_iload_n dX4_see_27 rfl ?_
    refine go_ishl dX4_see_28 e1 ?_
    refine go_ior dX4_see_29 rfl ?_
    refine go_iast dX4_see_30 rfl (by decide) rfl (by omega) (by decide) ?_
    refine go_aload_n dX4_see_31 rfl ?_
    refine go_dup dX4_see_32 rfl ?_
    refine go_geti dX4_see_33 fX4_18 rfl (by decide) (by decide) (by decide) rfl hc ?_
    refine go_iconst (nI 1) dX4_see_36 (by decide +kernel) ?_
    first | refine go_iadd_n dX4_see_37 ?_ | refine go_iadd dX4_see_37 rfl ?_
    refine go_puti dX4_see_38 fX4_18 rfl (by decide) (by decide) (by decide) rfl (fun _ _ _ h => by cases h; rfl) (Or.inl rfl) ?_
    exact go_vret dX4_see_41 rfl rfl rfl
  | true =>
    refine go_iload_n dX4_see_0 rfl ?_
    refine go_if_eq 19 dX4_see_1 (by decide) (fun h => absurd h (by decide +kernel)) (fun h1 => ?_)
    refine go_aload_n dX4_see_4 rfl ?_
    refine go_getc dX4_see_5 fX4_9 rfl (by decide) (by decide) (by decide) rfl ?_
    refine go_iload_n dX4_see_8 rfl ?_
    refine go_dup2 dX4_see_9 rfl rfl ?_
    refine go_iald dX4_see_10 rfl (by decide) rfl (by omega) (by decide) rfl ?_
    refine go_iconst (nI 1) dX4_see_11 (by decide +kernel) ?_
    refine go_iload_n dX4_see_12 rfl ?_
    refine go_ishl dX4_see_13 e1 ?_
    refine go_ior dX4_see_14 rfl ?_
    refine go_iast dX4_see_15 rfl (by decide) rfl (by omega) (by decide) ?_
    refine go_goto 31 dX4_see_16 (by decide) ?_
    refine go_aload_n dX4_see_31 rfl ?_
    refine go_dup dX4_see_32 rfl ?_
    refine go_geti dX4_see_33 fX4_18 rfl (by decide) (by decide) (by decide) rfl hc ?_
    refine go_iconst (nI 1) dX4_see_36 (by decide +kernel) ?_
    first | refine go_iadd_n dX4_see_37 ?_ | refine go_iadd dX4_see_37 rfl ?_
    refine go_puti dX4_see_38 fX4_18 rfl (by decide) (by decide) (by decide) rfl (fun _ _ _ h => by cases h; rfl) (Or.inl rfl) ?_
    exact go_vret dX4_see_41 rfl rfl rfl
def fgM (m : gMem) : gMem := gup (gupA (gupA m 27 (flP (m.1 27) (nI 0) 6)) 28 (flP (m.1 28) (nI 0) 6)) 26 2 (nI 0)
theorem c_forget {O : gOm} {d : Nat} {m : gMem} : Ca O (d + 1) kX4_forget [.ref 26] none m (fgM m) := by
  show Go O (d + 1) kX4_forget none _ 0 [.ref 26] [] m
  refine go_aload_n dX4_forget_0 rfl ?_
  refine go_getc dX4_forget_1 fX4_9 rfl (by decide) (by decide) (by decide) rfl ?_
  refine go_iconst (nI 0) dX4_forget_4 (by decide +kernel) ?_
  refine go_callS0 (K' := kJ7_fill_53178) [_, _] dX4_forget_5 mX4_22 lJ7_fill_53178 rfl rfl (Nat.le_of_ble_eq_true rfl) (Nat.le_of_ble_eq_true rfl) (c_fill rfl (by decide) (by decide)) ?_
  refine go_aload_n dX4_forget_8 rfl ?_
  refine go_getc dX4_forget_9 fX4_15 rfl (by decide) (by decide) (by decide) rfl ?_
  refine go_iconst (nI 0) dX4_forget_12 (by decide +kernel) ?_
  refine go_callS0 (K' := kJ7_fill_53178) [_, _] dX4_forget_13 mX4_22 lJ7_fill_53178 rfl rfl (Nat.le_of_ble_eq_true rfl) (Nat.le_of_ble_eq_true rfl) (c_fill rfl (by decide) (by decide)) ?_
  refine go_aload_n dX4_forget_16 rfl ?_
  refine go_iconst (nI 0) dX4_forget_17 (by decide +kernel) ?_
  refine go_puti dX4_forget_18 fX4_18 rfl (by decide) (by decide) (by decide) rfl (fun _ _ _ h => by cases h; rfl) (Or.inl rfl) ?_
  exact go_vret dX4_forget_21 rfl rfl rfl
theorem c_fit {O : gOm} {d : Nat} {m : gMem} {h k a b : Nat} (hh : h < 6) (hk : k < 64) (ha : a < 64) (hb : b < 64) (h1 : m.1 27 h = nI a) (h2 : m.1 28 h = nI b) : Ca O d kX4_fit [.ref 26, .int (nI h), .int (nI k)] (some (.int (bI (decide (a &&& (k ^^^ 63) = 0) && decide (b &&& k = 0))))) m m := by
  have z1 : a &&& (k ^^^ 63) < 64 := Nat.lt_of_le_of_lt Nat.and_le_left ha
  have z2 : b &&& k < 64 := Nat.lt_of_le_of_lt Nat.and_le_left hb
  show Go O d kX4_fit _ m 0 [.ref 26, .int (nI h), .int (nI k)] [] m
  refine go_aload_n dX4_fit_0 rfl ?_
  refine go_getc dX4_fit_1 fX4_9 rfl (by decide) (by decide) (by decide) rfl ?_
  refine go_iload_n dX4_fit_4 rfl ?_
  refine go_iald dX4_fit_5 rfl (by decide) rfl (by omega) (by decide) h1 ?_
  refine go_iload_n dX4_fit_6 rfl ?_
  refine go_iconst (-1) dX4_fit_7 (by decide +kernel) ?_
  refine go_ixor dX4_fit_8 rfl ?_
  refine go_iand dX4_fit_9 (nk_eq a ha k hk) ?_
  refine go_if_ne 28 dX4_fit_10 (by decide) (fun h10 => ?_) (fun h10 => ?_)
  · have er : bI (decide (a &&& (k ^^^ 63) = 0) && decide (b &&& k = 0)) = nI 0 := by
      have e : ¬ (a &&& (k ^^^ 63)) = 0 := fun z => h10 (by rw [z]; rfl)
      simp [e, bI]
    refine go_iconst (nI 0) dX4_fit_28 (by decide +kernel) ?_
    exact go_zret dX4_fit_29 rfl (by first | exact Or.inl rfl | exact Or.inr rfl) (by rw [er]) rfl
  · have e1 : (a &&& (k ^^^ 63)) = 0 := (nI_eq (b := 0) (by omega) (by omega)).mp h10
    refine go_aload_n dX4_fit_13 rfl ?_
    refine go_getc dX4_fit_14 fX4_15 rfl (by decide) (by decide) (by decide) rfl ?_
    refine go_iload_n dX4_fit_17 rfl ?_
    refine go_iald dX4_fit_18 rfl (by decide) rfl (by omega) (by decide) h2 ?_
    refine go_iload_n dX4_fit_19 rfl ?_
    refine go_iand dX4_fit_20 (nb_and _ _) ?_
    refine go_if_ne 28 dX4_fit_21 (by decide) (fun h21 => ?_) (fun h21 => ?_)
    · have er : bI (decide (a &&& (k ^^^ 63) = 0) && decide (b &&& k = 0)) = nI 0 := by
        have e : ¬ (b &&& k) = 0 := fun z => h21 (by rw [z]; rfl)
        simp [e, bI]
      refine go_iconst (nI 0) dX4_fit_28 (by decide +kernel) ?_
      exact go_zret dX4_fit_29 rfl (by first | exact Or.inl rfl | exact Or.inr rfl) (by rw [er]) rfl
    · have er : bI (decide (a &&& (k ^^^ 63) = 0) && decide (b &&& k = 0)) = nI 1 := by
        have e : (b &&& k) = 0 := (nI_eq (b := 0) (by omega) (by omega)).mp h21
        simp [e, e1, bI]
      refine go_iconst (nI 1) dX4_fit_24 (by decide +kernel) ?_
      refine go_goto 29 dX4_fit_25 (by decide) ?_
      exact go_zret dX4_fit_29 rfl (by first | exact Or.inl rfl | exact Or.inr rfl) (by rw [er]) rfl
