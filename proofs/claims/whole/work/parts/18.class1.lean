/-- Integer.bitCount, as its code has it -/
def bc1 (x : Int32) : Int32 := x - ((x.toUInt32 >>> ((nI 1).toUInt32 &&& Int32.toUInt32 31)).toInt32 &&& 1431655765)
def bc2 (x : Int32) : Int32 := (x &&& 858993459) + ((x.toUInt32 >>> ((nI 2).toUInt32 &&& Int32.toUInt32 31)).toInt32 &&& 858993459)
def bc3 (x : Int32) : Int32 := (x + (x.toUInt32 >>> ((nI 4).toUInt32 &&& Int32.toUInt32 31)).toInt32) &&& 252645135
def bc4 (x : Int32) : Int32 := x + (x.toUInt32 >>> ((nI 8).toUInt32 &&& Int32.toUInt32 31)).toInt32
def bc5 (x : Int32) : Int32 := (x + (x.toUInt32 >>> ((nI 16).toUInt32 &&& Int32.toUInt32 31)).toInt32) &&& nI 63
theorem bc_eq : ∀ n, n < 64 → bc5 (bc4 (bc3 (bc2 (bc1 (nI n))))) = nI (pc6 n) := by decide +kernel
theorem c_bitCount {O : gOm} {d : Nat} {m : gMem} {n : Nat} (hn : n < 64) : Ca O d kJ6_bitCount_0f7a4 [.int (nI n)] (some (.int (nI (pc6 n)))) m m := by
  show Go O d kJ6_bitCount_0f7a4 _ m 0 [.int (nI n)] [] m
  rw [← bc_eq n hn]
  refine go_iload_n dJ6_bitCount_0f7a4_0 rfl ?_
  refine go_iload_n dJ6_bitCount_0f7a4_1 rfl ?_
  refine go_iconst (nI 1) dJ6_bitCount_0f7a4_2 (by decide +kernel) ?_
  refine go_iushr dJ6_bitCount_0f7a4_3 rfl ?_
  refine go_ldcw kcJ6_265 dJ6_bitCount_0f7a4_4 ?_
  refine go_iand dJ6_bitCount_0f7a4_7 rfl ?_
  refine go_isub dJ6_bitCount_0f7a4_8 rfl ?_
  refine go_istore_n (L' := [_]) dJ6_bitCount_0f7a4_9 (by decide) rfl ?_
  show Go O d kJ6_bitCount_0f7a4 _ m 10 [.int (bc1 (nI n))] [] m
  generalize bc1 (nI n) = x1
  refine go_iload_n dJ6_bitCount_0f7a4_10 rfl ?_
  refine go_ldcw kcJ6_266 dJ6_bitCount_0f7a4_11 ?_
  refine go_iand dJ6_bitCount_0f7a4_14 rfl ?_
  refine go_iload_n dJ6_bitCount_0f7a4_15 rfl ?_
  refine go_iconst (nI 2) dJ6_bitCount_0f7a4_16 (by decide +kernel) ?_
  refine go_iushr dJ6_bitCount_0f7a4_17 rfl ?_
  refine go_ldcw kcJ6_266 dJ6_bitCount_0f7a4_18 ?_
  refine go_iand dJ6_bitCount_0f7a4_21 rfl ?_
  refine go_iadd dJ6_bitCount_0f7a4_22 rfl ?_
  refine go_istore_n (L' := [_]) dJ6_bitCount_0f7a4_23 (by decide) rfl ?_
  show Go O d kJ6_bitCount_0f7a4 _ m 24 [.int (bc2 x1)] [] m
  generalize bc2 x1 = x2
  refine go_iload_n dJ6_bitCount_0f7a4_24 rfl ?_
  refine go_iload_n dJ6_bitCount_0f7a4_25 rfl ?_
  refine go_iconst (nI 4) dJ6_bitCount_0f7a4_26 (by decide +kernel) ?_
  refine go_iushr dJ6_bitCount_0f7a4_27 rfl ?_
  refine go_iadd dJ6_bitCount_0f7a4_28 rfl ?_
  refine go_ldcw kcJ6_267 dJ6_bitCount_0f7a4_29 ?_
  refine go_iand dJ6_bitCount_0f7a4_32 rfl ?_
  refine go_istore_n (L' := [_]) dJ6_bitCount_0f7a4_33 (by decide) rfl ?_
  show Go O d kJ6_bitCount_0f7a4 _ m 34 [.int (bc3 x2)] [] m
  generalize bc3 x2 = x3
  refine go_iload_n dJ6_bitCount_0f7a4_34 rfl ?_
  refine go_iload_n dJ6_bitCount_0f7a4_35 rfl ?_
  refine go_bipush (nI 8) dJ6_bitCount_0f7a4_36 (by decide +kernel) ?_
  refine go_iushr dJ6_bitCount_0f7a4_38 rfl ?_
  refine go_iadd dJ6_bitCount_0f7a4_39 rfl ?_
  refine go_istore_n (L' := [_]) dJ6_bitCount_0f7a4_40 (by decide) rfl ?_
  show Go O d kJ6_bitCount_0f7a4 _ m 41 [.int (bc4 x3)] [] m
  generalize bc4 x3 = x4
  refine go_iload_n dJ6_bitCount_0f7a4_41 rfl ?_
  refine go_iload_n dJ6_bitCount_0f7a4_42 rfl ?_
  refine go_bipush (nI 16) dJ6_bitCount_0f7a4_43 (by decide +kernel) ?_
  refine go_iushr dJ6_bitCount_0f7a4_45 rfl ?_
  refine go_iadd dJ6_bitCount_0f7a4_46 rfl ?_
  refine go_istore_n (L' := [_]) dJ6_bitCount_0f7a4_47 (by decide) rfl ?_
  refine go_iload_n dJ6_bitCount_0f7a4_48 rfl ?_
  refine go_bipush (nI 63) dJ6_bitCount_0f7a4_49 (by decide +kernel) ?_
  refine go_iand dJ6_bitCount_0f7a4_51 rfl ?_
  exact go_iret dJ6_bitCount_0f7a4_52 rfl rfl rfl
def flP (f : Nat → Int32) (x : Int32) : Nat → Nat → Int32
  | 0 => f
  | i + 1 => upd (flP f x i) i x
theorem flP_at (f : Nat → Int32) (x : Int32) (j : Nat) : ∀ n, flP f x n j = if j < n then x else f j
  | 0 => by rw [if_neg (by omega)]; rfl
  | n + 1 => by
    by_cases h : j = n
    · rw [if_pos (by omega), flP, h, upd_s]
    · rw [flP, upd_n _ _ h, flP_at f x j n]
      by_cases h2 : j < n
      · rw [if_pos h2, if_pos (by omega)]
      · rw [if_neg h2, if_neg (by omega)]
theorem c_fill {O : gOm} {d : Nat} {m : gMem} {k n : Nat} {x : Int32} (hk : gK k = (8, n)) (hkn : k < gNC) (hn : n < 1000) : Ca O d kJ7_fill_53178 [.ref k, .int x] none m (gupA m k (flP (m.1 k) x n)) := by
  have key : ∀ c i, i + c = n → Go O d kJ7_fill_53178 none (gupA m k (flP (m.1 k) x n)) 5 [.ref k, .int x, .int (nI i), .int (nI n)] [] (gupA m k (flP (m.1 k) x i)) := by
    intro c
    induction c with
    | zero =>
      intro i hi
      obtain rfl : i = n := by omega
      refine go_iload_n dJ7_fill_53178_5 rfl ?_
      refine go_iload_n dJ7_fill_53178_6 rfl ?_
      refine go_icmp_ge 20 dJ7_fill_53178_7 (by decide) (fun h7 => ?_) (fun h => absurd (nI_le (by omega) (by omega)) h)
      exact go_vret dJ7_fill_53178_20 rfl rfl rfl
    | succ c ih =>
      intro i hi
      refine go_iload_n dJ7_fill_53178_5 rfl ?_
      refine go_iload_n dJ7_fill_53178_6 rfl ?_
      refine go_icmp_ge 20 dJ7_fill_53178_7 (by decide) (fun h => absurd h (nI_ge (by omega) (by omega))) (fun h7 => ?_)
      refine go_aload_n dJ7_fill_53178_10 rfl ?_
      refine go_iload_n dJ7_fill_53178_11 rfl ?_
      refine go_iload_n dJ7_fill_53178_12 rfl ?_
      refine go_iastA dJ7_fill_53178_13 hk hkn rfl (by omega) hn ?_
      refine go_iinc_n (L' := [_, _, _, _]) dJ7_fill_53178_14 rfl (by decide) rfl ?_
      refine go_goto 5 dJ7_fill_53178_17 (by decide) ?_
      exact ih (i + 1) (by omega)
  show Go O d kJ7_fill_53178 none _ 0 [.ref k, .int x, .null, .null] [] m
  refine go_mem (gupA_self m k).symm ?_
  refine go_iconst (nI 0) dJ7_fill_53178_0 (by decide +kernel) ?_
  refine go_istore_n (L' := [_, _, _, _]) dJ7_fill_53178_1 (by decide) rfl ?_
  refine go_aload_n dJ7_fill_53178_2 rfl ?_
  refine go_alen dJ7_fill_53178_3 hk hkn rfl ?_
  refine go_istore_n (L' := [_, _, _, _]) dJ7_fill_53178_4 (by decide) rfl ?_
  exact key n 0 (by omega)
theorem c_isCompany {O : gOm} {d : Nat} {m : gMem} {g : Nat} (hg : g < 64) : Ca O (d + 1) kX1_isCompany [.int (nI g)] (some (.int (bI (decide (1 < pc6 g))))) m m := by
  have hq := pc6_le g
  show Go O (d + 1) kX1_isCompany _ m 0 [.int (nI g)] [] m
  refine go_iload_n dX1_isCompany_0 rfl ?_
  refine go_callS1 (K' := kJ6_bitCount_0f7a4) [_] dX1_isCompany_1 mX1_43 lJ6_bitCount_0f7a4 rfl rfl (Nat.le_of_ble_eq_true rfl) (Nat.le_of_ble_eq_true rfl) (c_bitCount hg) ?_
  refine go_iconst (nI 1) dX1_isCompany_4 (by decide +kernel) ?_
  refine go_icmp_le 12 dX1_isCompany_5 (by decide) (fun h5 => ?_) (fun h5 => ?_)
  · have er : bI (decide (1 < pc6 g)) = nI 0 := by
      have := (nI_leI (by omega) (by omega)).mp h5
      rw [bI_F (by simp; omega)]
    refine go_iconst (nI 0) dX1_isCompany_12 (by decide +kernel) ?_
    exact go_zret dX1_isCompany_13 rfl (by first | exact Or.inl rfl | exact Or.inr rfl) (by rw [er]) rfl
  · have er : bI (decide (1 < pc6 g)) = nI 1 := by
      rcases Nat.lt_or_ge 1 (pc6 g) with z | z
      · rw [bI_T (by simp [z])]
      · exact absurd (nI_le z (by omega)) h5
    refine go_iconst (nI 1) dX1_isCompany_8 (by decide +kernel) ?_
    refine go_goto 13 dX1_isCompany_9 (by decide) ?_
    exact go_zret dX1_isCompany_13 rfl (by first | exact Or.inl rfl | exact Or.inr rfl) (by rw [er]) rfl
theorem c_placeOf_29 {O : gOm} {d : Nat} {m : gMem} {p h : Nat} {v : Int32} (hp : p < 6) (hh : h < 6) (hv : m.1 30 (p * 6 + h) = v) : Ca O d kX1_placeOf [.ref 29, .int (nI p), .int (nI h)] (some (.int v)) m m := by
  show Go O d kX1_placeOf _ m 0 [.ref 29, .int (nI p), .int (nI h)] [] m
  refine go_aload_n dX1_placeOf_0 rfl ?_
  refine go_getc dX1_placeOf_1 fX1_9 rfl (by decide) (by decide) (by decide) rfl ?_
  refine go_iload_n dX1_placeOf_4 rfl ?_
  refine go_bipush (nI 6) dX1_placeOf_5 (by decide +kernel) ?_
  first | refine go_imul_n dX1_placeOf_7 ?_ | refine go_imul dX1_placeOf_7 rfl ?_
  refine go_iload_n dX1_placeOf_8 rfl ?_
  first | refine go_iadd_n dX1_placeOf_9 ?_ | refine go_iadd dX1_placeOf_9 rfl ?_
  refine go_iald dX1_placeOf_10 rfl (by decide) rfl (by omega) (by decide) hv ?_
  exact go_iret dX1_placeOf_11 rfl rfl rfl
theorem c_group_29 {O : gOm} {d : Nat} {m : gMem} {h a : Nat} {v : Int32} (hh : h < 6) (ha : a < 3) (hv : m.1 31 (h * 3 + a) = v) : Ca O d kX1_group [.ref 29, .int (nI h), .int (nI a)] (some (.int v)) m m := by
  show Go O d kX1_group _ m 0 [.ref 29, .int (nI h), .int (nI a)] [] m
  refine go_iload_n dX1_group_0 rfl ?_
  refine go_if_lt 22 dX1_group_1 (by decide) (fun h => absurd h (nI_pos (by omega))) (fun h1 => ?_)
  refine go_iload_n dX1_group_4 rfl ?_
  refine go_iconst (nI 3) dX1_group_5 (by decide +kernel) ?_
  refine go_icmp_ge 22 dX1_group_6 (by decide) (fun h => absurd h (nI_ge (by omega) (by omega))) (fun h6 => ?_)
  refine go_aload_n dX1_group_9 rfl ?_
  refine go_getc dX1_group_10 fX1_15 rfl (by decide) (by decide) (by decide) rfl ?_
  refine go_iload_n dX1_group_13 rfl ?_
  refine go_iconst (nI 3) dX1_group_14 (by decide +kernel) ?_
  first | refine go_imul_n dX1_group_15 ?_ | refine go_imul dX1_group_15 rfl ?_
  refine go_iload_n dX1_group_16 rfl ?_
  first | refine go_iadd_n dX1_group_17 ?_ | refine go_iadd dX1_group_17 rfl ?_
  refine go_iald dX1_group_18 rfl (by decide) rfl (by omega) (by decide) hv ?_
  refine go_goto 23 dX1_group_19 (by decide) ?_
  exact go_iret dX1_group_23 rfl rfl rfl
theorem c_group9_29 {O : gOm} {d : Nat} {m : gMem} {h : Nat} : Ca O d kX1_group [.ref 29, .int (nI h), .int (-9)] (some (.int (nI 0))) m m := by
  show Go O d kX1_group _ m 0 [.ref 29, .int (nI h), .int (-9)] [] m
  refine go_iload_n dX1_group_0 rfl ?_
  refine go_if_lt 22 dX1_group_1 (by decide) (fun h1 => ?_) (fun h => absurd (by decide +kernel) h)
  refine go_iconst (nI 0) dX1_group_22 (by decide +kernel) ?_
  exact go_iret dX1_group_23 rfl rfl rfl
theorem c_placeOf_35 {O : gOm} {d : Nat} {m : gMem} {p h : Nat} {v : Int32} (hp : p < 6) (hh : h < 6) (hv : m.1 36 (p * 6 + h) = v) : Ca O d kX1_placeOf [.ref 35, .int (nI p), .int (nI h)] (some (.int v)) m m := by
  show Go O d kX1_placeOf _ m 0 [.ref 35, .int (nI p), .int (nI h)] [] m
  refine go_aload_n dX1_placeOf_0 rfl ?_
  refine go_getc dX1_placeOf_1 fX1_9 rfl (by decide) (by decide) (by decide) rfl ?_
  refine go_iload_n dX1_placeOf_4 rfl ?_
  refine go_bipush (nI 6) dX1_placeOf_5 (by decide +kernel) ?_
  first | refine go_imul_n dX1_placeOf_7 ?_ | refine go_imul dX1_placeOf_7 rfl ?_
  refine go_iload_n dX1_placeOf_8 rfl ?_
  first | refine go_iadd_n dX1_placeOf_9 ?_ | refine go_iadd dX1_placeOf_9 rfl ?_
  refine go_iald dX1_placeOf_10 rfl (by decide) rfl (by omega) (by decide) hv ?_
  exact go_iret dX1_placeOf_11 rfl rfl rfl
theorem c_group_35 {O : gOm} {d : Nat} {m : gMem} {h a : Nat} {v : Int32} (hh : h < 6) (ha : a < 3) (hv : m.1 37 (h * 3 + a) = v) : Ca O d kX1_group [.ref 35, .int (nI h), .int (nI a)] (some (.int v)) m m := by
  show Go O d kX1_group _ m 0 [.ref 35, .int (nI h), .int (nI a)] [] m
  refine go_iload_n dX1_group_0 rfl ?_
  refine go_if_lt 22 dX1_group_1 (by decide) (fun h => absurd h (nI_pos (by omega))) (fun h1 => ?_)
  refine go_iload_n dX1_group_4 rfl ?_
  refine go_iconst (nI 3) dX1_group_5 (by decide +kernel) ?_
  refine go_icmp_ge 22 dX1_group_6 (by decide) (fun h => absurd h (nI_ge (by omega) (by omega))) (fun h6 => ?_)
  refine go_aload_n dX1_group_9 rfl ?_
  refine go_getc dX1_group_10 fX1_15 rfl (by decide) (by decide) (by decide) rfl ?_
  refine go_iload_n dX1_group_13 rfl ?_
  refine go_iconst (nI 3) dX1_group_14 (by decide +kernel) ?_
  first | refine go_imul_n dX1_group_15 ?_ | refine go_imul dX1_group_15 rfl ?_
  refine go_iload_n dX1_group_16 rfl ?_
  first | refine go_iadd_n dX1_group_17 ?_ | refine go_iadd dX1_group_17 rfl ?_
  refine go_iald dX1_group_18 rfl (by decide) rfl (by omega) (by decide) hv ?_
  refine go_goto 23 dX1_group_19 (by decide) ?_
  exact go_iret dX1_group_23 rfl rfl rfl
theorem c_group9_35 {O : gOm} {d : Nat} {m : gMem} {h : Nat} : Ca O d kX1_group [.ref 35, .int (nI h), .int (-9)] (some (.int (nI 0))) m m := by
  show Go O d kX1_group _ m 0 [.ref 35, .int (nI h), .int (-9)] [] m
  refine go_iload_n dX1_group_0 rfl ?_
  refine go_if_lt 22 dX1_group_1 (by decide) (fun h1 => ?_) (fun h => absurd (by decide +kernel) h)
  refine go_iconst (nI 0) dX1_group_22 (by decide +kernel) ?_
  exact go_iret dX1_group_23 rfl rfl rfl
theorem c_knows_3 {O : gOm} {d : Nat} {m : gMem} {p n k : Nat} (hp : p < 6) (hn : n < 3) (hk : k < 64) (hv : m.1 4 n = nI k) : Ca O d kX5_knows [.ref 3, .int (nI p), .int (nI n)] (some (.int (bI (k.testBit p)))) m m := by
  have ev : nI k >>> (nI p &&& 31) &&& nI 1 = nI (if k.testBit p then 1 else 0) := by rw [nb_bit (by omega) (by omega), nb_tb]
  show Go O d kX5_knows _ m 0 [.ref 3, .int (nI p), .int (nI n)] [] m
  refine go_aload_n dX5_knows_0 rfl ?_
  refine go_getc dX5_knows_1 fX5_9 rfl (by decide) (by decide) (by decide) rfl ?_
  refine go_iload_n dX5_knows_4 rfl ?_
  refine go_iald dX5_knows_5 rfl (by decide) rfl (by omega) (by decide) hv ?_
  refine go_iload_n dX5_knows_6 rfl ?_
  refine go_ishr dX5_knows_7 rfl ?_
  refine go_iconst (nI 1) dX5_knows_8 (by decide +kernel) ?_
  refine go_iand dX5_knows_9 ev ?_
  refine go_if_eq 17 dX5_knows_10 (by decide) (fun h10 => ?_) (fun h10 => ?_)
  · have er : k.testBit p = false := by
      cases h : k.testBit p with
      | false => rfl
      | true => rw [h] at h10; exact absurd h10 (by decide +kernel)
    refine go_iconst (nI 0) dX5_knows_17 (by decide +kernel) ?_
    exact go_zret dX5_knows_18 rfl (by first | exact Or.inl rfl | exact Or.inr rfl) (by rw [er]; rfl) rfl
  · have er : k.testBit p = true := by
      cases h : k.testBit p with
      | true => rfl
      | false => rw [h] at h10; exact absurd rfl h10
    refine go_iconst (nI 1) dX5_knows_13 (by decide +kernel) ?_
    refine go_goto 18 dX5_knows_14 (by decide) ?_
    exact go_zret dX5_knows_18 rfl (by first | exact Or.inl rfl | exact Or.inr rfl) (by rw [er]; rfl) rfl
theorem c_tellingsOf_3 {O : gOm} {d : Nat} {m : gMem} {n : Nat} (hn : n < 3) : Ca O d kX5_tellingsOf [.ref 3, .int (nI n)] (some (.int (nI 0 + m.1 7 (n * 3 + 0) + m.1 7 (n * 3 + 1) + m.1 7 (n * 3 + 2)))) m m := by
  show Go O d kX5_tellingsOf _ m 0 [.ref 3, .int (nI n), .null, .null] [] m
  refine go_iconst (nI 0) dX5_tellingsOf_0 (by decide +kernel) ?_
  refine go_istore_n (L' := [_, _, _, _]) dX5_tellingsOf_1 (by decide) rfl ?_
  refine go_iconst (nI 0) dX5_tellingsOf_2 (by decide +kernel) ?_
  refine go_istore_n (L' := [_, _, _, _]) dX5_tellingsOf_3 (by decide) rfl ?_
  skip
  refine go_iload_n dX5_tellingsOf_4 rfl ?_
  refine go_iconst (nI 3) dX5_tellingsOf_5 (by decide +kernel) ?_
  refine go_icmp_ge 28 dX5_tellingsOf_6 (by decide) (fun h => absurd h (nI_ge (by decide) (by decide))) (fun h6 => ?_)
  refine go_iload_n dX5_tellingsOf_9 rfl ?_
  refine go_aload_n dX5_tellingsOf_10 rfl ?_
  refine go_getc dX5_tellingsOf_11 fX5_21 rfl (by decide) (by decide) (by decide) rfl ?_
  refine go_iload_n dX5_tellingsOf_14 rfl ?_
  refine go_iconst (nI 3) dX5_tellingsOf_15 (by decide +kernel) ?_
  first | refine go_imul_n dX5_tellingsOf_16 ?_ | refine go_imul dX5_tellingsOf_16 rfl ?_
  refine go_iload_n dX5_tellingsOf_17 rfl ?_
  first | refine go_iadd_n dX5_tellingsOf_18 ?_ | refine go_iadd dX5_tellingsOf_18 rfl ?_
  refine go_iald dX5_tellingsOf_19 rfl (by decide) rfl (by omega) (by decide) rfl ?_
  refine go_iadd dX5_tellingsOf_20 rfl ?_
  refine go_istore_n (L' := [_, _, _, _]) dX5_tellingsOf_21 (by decide) rfl ?_
  refine go_iinc_n (L' := [_, _, _, _]) dX5_tellingsOf_22 rfl (by decide) rfl ?_
  refine go_goto 4 dX5_tellingsOf_25 (by decide) ?_
  skip
  refine go_iload_n dX5_tellingsOf_4 rfl ?_
  refine go_iconst (nI 3) dX5_tellingsOf_5 (by decide +kernel) ?_
  refine go_icmp_ge 28 dX5_tellingsOf_6 (by decide) (fun h => absurd h (nI_ge (by decide) (by decide))) (fun h6 => ?_)
  refine go_iload_n dX5_tellingsOf_9 rfl ?_
  refine go_aload_n dX5_tellingsOf_10 rfl ?_
  refine go_getc dX5_tellingsOf_11 fX5_21 rfl (by decide) (by decide) (by decide) rfl ?_
  refine go_iload_n dX5_tellingsOf_14 rfl ?_
  refine go_iconst (nI 3) dX5_tellingsOf_15 (by decide +kernel) ?_
  first | refine go_imul_n dX5_tellingsOf_16 ?_ | refine go_imul dX5_tellingsOf_16 rfl ?_
  refine go_iload_n dX5_tellingsOf_17 rfl ?_
  first | refine go_iadd_n dX5_tellingsOf_18 ?_ | refine go_iadd dX5_tellingsOf_18 rfl ?_
  refine go_iald dX5_tellingsOf_19 rfl (by decide) rfl (by omega) (by decide) rfl ?_
  refine go_iadd dX5_tellingsOf_20 rfl ?_
  refine go_istore_n (L' := [_, _, _, _]) dX5_tellingsOf_21 (by decide) rfl ?_
  refine go_iinc_n (L' := [_, _, _, _]) dX5_tellingsOf_22 rfl (by decide) rfl ?_
  refine go_goto 4 dX5_tellingsOf_25 (by decide) ?_
  skip
  refine go_iload_n dX5_tellingsOf_4 rfl ?_
  refine go_iconst (nI 3) dX5_tellingsOf_5 (by decide +kernel) ?_
  refine go_icmp_ge 28 dX5_tellingsOf_6 (by decide) (fun h => absurd h (nI_ge (by decide) (by decide))) (fun h6 => ?_)
  refine go_iload_n dX5_tellingsOf_9 rfl ?_
  refine go_aload_n dX5_tellingsOf_10 rfl ?_
  refine go_getc dX5_tellingsOf_11 fX5_21 rfl (by decide) (by decide) (by decide) rfl ?_
  refine go_iload_n dX5_tellingsOf_14 rfl ?_
  refine go_iconst (nI 3) dX5_tellingsOf_15 (by decide +kernel) ?_
  first | refine go_imul_n dX5_tellingsOf_16 ?_ | refine go_imul dX5_tellingsOf_16 rfl ?_
  refine go_iload_n dX5_tellingsOf_17 rfl ?_
  first | refine go_iadd_n dX5_tellingsOf_18 ?_ | refine go_iadd dX5_tellingsOf_18 rfl ?_
  refine go_iald dX5_tellingsOf_19 rfl (by decide) rfl (by omega) (by decide) rfl ?_
  refine go_iadd dX5_tellingsOf_20 rfl ?_
  refine go_istore_n (L' := [_, _, _, _]) dX5_tellingsOf_21 (by decide) rfl ?_
  refine go_iinc_n (L' := [_, _, _, _]) dX5_tellingsOf_22 rfl (by decide) rfl ?_
  refine go_goto 4 dX5_tellingsOf_25 (by decide) ?_
  skip
  refine go_iload_n dX5_tellingsOf_4 rfl ?_
  refine go_iconst (nI 3) dX5_tellingsOf_5 (by decide +kernel) ?_
  refine go_icmp_ge 28 dX5_tellingsOf_6 (by decide) (fun h6 => ?_) (fun h => absurd (nI_le (by decide) (by decide)) h)
  refine go_iload_n dX5_tellingsOf_28 rfl ?_
  exact go_iret dX5_tellingsOf_29 rfl rfl rfl
theorem c_knows_8 {O : gOm} {d : Nat} {m : gMem} {p n k : Nat} (hp : p < 6) (hn : n < 3) (hk : k < 64) (hv : m.1 9 n = nI k) : Ca O d kX5_knows [.ref 8, .int (nI p), .int (nI n)] (some (.int (bI (k.testBit p)))) m m := by
  have ev : nI k >>> (nI p &&& 31) &&& nI 1 = nI (if k.testBit p then 1 else 0) := by rw [nb_bit (by omega) (by omega), nb_tb]
  show Go O d kX5_knows _ m 0 [.ref 8, .int (nI p), .int (nI n)] [] m
  refine go_aload_n dX5_knows_0 rfl ?_
  refine go_getc dX5_knows_1 fX5_9 rfl (by decide) (by decide) (by decide) rfl ?_
  refine go_iload_n dX5_knows_4 rfl ?_
  refine go_iald dX5_knows_5 rfl (by decide) rfl (by omega) (by decide) hv ?_
  refine go_iload_n dX5_knows_6 rfl ?_
  refine go_ishr dX5_knows_7 rfl ?_
  refine go_iconst (nI 1) dX5_knows_8 (by decide +kernel) ?_
  refine go_iand dX5_knows_9 ev ?_
  refine go_if_eq 17 dX5_knows_10 (by decide) (fun h10 => ?_) (fun h10 => ?_)
  · have er : k.testBit p = false := by
      cases h : k.testBit p with
      | false => rfl
      | true => rw [h] at h10; exact absurd h10 (by decide +kernel)
    refine go_iconst (nI 0) dX5_knows_17 (by decide +kernel) ?_
    exact go_zret dX5_knows_18 rfl (by first | exact Or.inl rfl | exact Or.inr rfl) (by rw [er]; rfl) rfl
  · have er : k.testBit p = true := by
      cases h : k.testBit p with
      | true => rfl
      | false => rw [h] at h10; exact absurd rfl h10
    refine go_iconst (nI 1) dX5_knows_13 (by decide +kernel) ?_
    refine go_goto 18 dX5_knows_14 (by decide) ?_
    exact go_zret dX5_knows_18 rfl (by first | exact Or.inl rfl | exact Or.inr rfl) (by rw [er]; rfl) rfl
theorem c_tellingsOf_8 {O : gOm} {d : Nat} {m : gMem} {n : Nat} (hn : n < 3) : Ca O d kX5_tellingsOf [.ref 8, .int (nI n)] (some (.int (nI 0 + m.1 12 (n * 3 + 0) + m.1 12 (n * 3 + 1) + m.1 12 (n * 3 + 2)))) m m := by
  show Go O d kX5_tellingsOf _ m 0 [.ref 8, .int (nI n), .null, .null] [] m
  refine go_iconst (nI 0) dX5_tellingsOf_0 (by decide +kernel) ?_
  refine go_istore_n (L' := [_, _, _, _]) dX5_tellingsOf_1 (by decide) rfl ?_
  refine go_iconst (nI 0) dX5_tellingsOf_2 (by decide +kernel) ?_
  refine go_istore_n (L' := [_, _, _, _]) dX5_tellingsOf_3 (by decide) rfl ?_
  skip
  refine go_iload_n dX5_tellingsOf_4 rfl ?_
  refine go_iconst (nI 3) dX5_tellingsOf_5 (by decide +kernel) ?_
  refine go_icmp_ge 28 dX5_tellingsOf_6 (by decide) (fun h => absurd h (nI_ge (by decide) (by decide))) (fun h6 => ?_)
  refine go_iload_n dX5_tellingsOf_9 rfl ?_
  refine go_aload_n dX5_tellingsOf_10 rfl ?_
  refine go_getc dX5_tellingsOf_11 fX5_21 rfl (by decide) (by decide) (by decide) rfl ?_
  refine go_iload_n dX5_tellingsOf_14 rfl ?_
  refine go_iconst (nI 3) dX5_tellingsOf_15 (by decide +kernel) ?_
  first | refine go_imul_n dX5_tellingsOf_16 ?_ | refine go_imul dX5_tellingsOf_16 rfl ?_
  refine go_iload_n dX5_tellingsOf_17 rfl ?_
  first | refine go_iadd_n dX5_tellingsOf_18 ?_ | refine go_iadd dX5_tellingsOf_18 rfl ?_
  refine go_iald dX5_tellingsOf_19 rfl (by decide) rfl (by omega) (by decide) rfl ?_
  refine go_iadd dX5_tellingsOf_20 rfl ?_
  refine go_istore_n (L' := [_, _, _, _]) dX5_tellingsOf_21 (by decide) rfl ?_
  refine go_iinc_n (L' := [_, _, _, _]) dX5_tellingsOf_22 rfl (by decide) rfl ?_
  refine go_goto 4 dX5_tellingsOf_25 (by decide) ?_
  skip
  refine go_iload_n dX5_tellingsOf_4 rfl ?_
  refine go_iconst (nI 3) dX5_tellingsOf_5 (by decide +kernel) ?_
  refine go_icmp_ge 28 dX5_tellingsOf_6 (by decide) (fun h => absurd h (nI_ge (by decide) (by decide))) (fun h6 => ?_)
  refine go_iload_n dX5_tellingsOf_9 rfl ?_
  refine go_aload_n dX5_tellingsOf_10 rfl ?_
  refine go_getc dX5_tellingsOf_11 fX5_21 rfl (by decide) (by decide) (by decide) rfl ?_
  refine go_iload_n dX5_tellingsOf_14 rfl ?_
  refine go_iconst (nI 3) dX5_tellingsOf_15 (by decide +kernel) ?_
  first | refine go_imul_n dX5_tellingsOf_16 ?_ | refine go_imul dX5_tellingsOf_16 rfl ?_
  refine go_iload_n dX5_tellingsOf_17 rfl ?_
  first | refine go_iadd_n dX5_tellingsOf_18 ?_ | refine go_iadd dX5_tellingsOf_18 rfl ?_
  refine go_iald dX5_tellingsOf_19 rfl (by decide) rfl (by omega) (by decide) rfl ?_
  refine go_iadd dX5_tellingsOf_20 rfl ?_
  refine go_istore_n (L' := [_, _, _, _]) dX5_tellingsOf_21 (by decide) rfl ?_
  refine go_iinc_n (L' := [_, _, _, _]) dX5_tellingsOf_22 rfl (by decide) rfl ?_
  refine go_goto 4 dX5_tellingsOf_25 (by decide) ?_
  skip
  refine go_iload_n dX5_tellingsOf_4 rfl ?_
  refine go_iconst (nI 3) dX5_tellingsOf_5 (by decide +kernel) ?_
  refine go_icmp_ge 28 dX5_tellingsOf_6 (by decide) (fun h => absurd h (nI_ge (by decide) (by decide))) (fun h6 => ?_)
  refine go_iload_n dX5_tellingsOf_9 rfl ?_
  refine go_aload_n dX5_tellingsOf_10 rfl ?_
  refine go_getc dX5_tellingsOf_11 fX5_21 rfl (by decide) (by decide) (by decide) rfl ?_
  refine go_iload_n dX5_tellingsOf_14 rfl ?_
  refine go_iconst (nI 3) dX5_tellingsOf_15 (by decide +kernel) ?_
  first | refine go_imul_n dX5_tellingsOf_16 ?_ | refine go_imul dX5_tellingsOf_16 rfl ?_
  refine go_iload_n dX5_tellingsOf_17 rfl ?_
  first | refine go_iadd_n dX5_tellingsOf_18 ?_ | refine go_iadd dX5_tellingsOf_18 rfl ?_
  refine go_iald dX5_tellingsOf_19 rfl (by decide) rfl (by omega) (by decide) rfl ?_
  refine go_iadd dX5_tellingsOf_20 rfl ?_
  refine go_istore_n (L' := [_, _, _, _]) dX5_tellingsOf_21 (by decide) rfl ?_
  refine go_iinc_n (L' := [_, _, _, _]) dX5_tellingsOf_22 rfl (by decide) rfl ?_
  refine go_goto 4 dX5_tellingsOf_25 (by decide) ?_
  skip
  refine go_iload_n dX5_tellingsOf_4 rfl ?_
  refine go_iconst (nI 3) dX5_tellingsOf_5 (by decide +kernel) ?_
  refine go_icmp_ge 28 dX5_tellingsOf_6 (by decide) (fun h6 => ?_) (fun h => absurd (nI_le (by decide) (by decide)) h)
  refine go_iload_n dX5_tellingsOf_28 rfl ?_
  exact go_iret dX5_tellingsOf_29 rfl rfl rfl
