theorem IvK.put {m m2 : gMem} {N s hr : Nat} {lim : Nat → Nat} {f : Nat → Int32} (h : IvK m N lim) (hs : s < 2) (e5 : m2.1 (gsl s) 5 = nI 1) (e59 : m2.1 59 s = nI 1) (e58 : m2.1 58 = lyP (m.1 58) f (58 * s) (nI hr)) (hok : PgOk lim N f hr) (hst : StP m2 (gsl s) f hr) (ho : ∀ s', s' < 2 → s' ≠ s → m2.1 59 s' = m.1 59 s' ∧ ∀ k, gsl s' ≤ k → k ≤ gsl s' + 4 → m2.1 k = m.1 k) : IvK m2 N lim := by
  intro s' hs'
  by_cases hz : s' = s
  · subst hz
    refine ⟨true, e5, e59, fun _ => ⟨f, hr, fun j hj => ?_, ?_, hok, hst⟩⟩
    · show m2.1 58 (58 * s' + j) = f j
      rw [e58, lyP_in _ _ _ _ (by omega)]
    · rw [e58, lyP_hr]
  · obtain ⟨b, q1, q2, q3⟩ := h s' hs'
    obtain ⟨o1, o2⟩ := ho s' hs' hz
    refine ⟨b, by rw [o2 _ (Nat.le_refl _) (by omega)]; exact q1, by rw [o1]; exact q2, fun hb => ?_⟩
    obtain ⟨g, hr0, r1, r2, r3, r4⟩ := q3 hb
    refine ⟨g, hr0, fun j hj => ?_, ?_, r3, r4.kept (by rw [o2 _ (Nat.le_refl _) (by omega)]) (o2 _ (by omega) (by omega)) (o2 _ (by omega) (by omega)) (o2 _ (by omega) (by omega)) (o2 _ (by omega) (by omega))⟩
    · show m2.1 58 (58 * s' + j) = g j
      rw [e58, lyP_out _ _ _ _ (by omega)]
      exact r1 j hj
    · rw [e58, lyP_out _ _ _ _ (by omega)]
      exact r2
/-- the rest of what holds, where now, the hour, the acts and what is kept alone may have changed -/
theorem Inv.mk6 {m m2 : gMem} {P N lw c L hr' a' : Nat} {lim : Nat → Nat} (h1 : IvTD m) (h2 : IvD m P N lw lim) (h3 : IvT m (m.2 0) P N lw) (h7 : IvS m c) (h8 : IvX m L) (e2 : m2.2 = m.2) (nk : ∀ k, (k < 3 ∨ 24 < k) → k ≠ 25 → k ≠ 46 → k ≠ 52 → k ≠ 57 → k ≠ 58 → k ≠ 59 → m2.1 k = m.1 k) (nf : ∀ i, i ≠ 0 → i ≠ 11 → i ≠ 21 → m2.1 46 i = m.1 46 i) (hP : IvP m2 N lim hr') (hA : IvA m2 P N lim hr' a') (hK : IvK m2 N lim) : Inv m2 := by
  have n : ∀ k, (decide ((k < 3 ∨ 24 < k) ∧ k ≠ 25 ∧ k ≠ 46 ∧ k ≠ 52 ∧ k ≠ 57 ∧ k ≠ 58 ∧ k ≠ 59) = true) → m2.1 k = m.1 k := fun k hk => by
    obtain ⟨z1, z2, z3, z4, z5, z6, z7⟩ := of_decide_eq_true hk
    exact nk k z1 z2 z3 z4 z5 z6 z7
  obtain ⟨g1, g3⟩ := h3.all (m' := m2) h1 e2 (fun k z1 z2 => nk k (by omega) (by omega) (by omega) (by omega) (by omega) (by omega) (by omega)) (n 48 rfl) (n 49 rfl) (n 50 rfl) (n 51 rfl)
  exact ⟨P, N, lw, hr', a', c, L, lim, g1, h2.kept (nf 4 (by decide) (by decide) (by decide)) (nf 5 (by decide) (by decide) (by decide)) (nf 6 (by decide) (by decide) (by decide)) (n 48 rfl) (n 49 rfl) (n 51 rfl), g3, hP, hA, hK, h7.kept (congrFun (n 26 rfl) 2) (n 27 rfl) (n 28 rfl) (nf 25 (by decide) (by decide) (by decide)) (n 61 rfl) (n 62 rfl) (n 63 rfl), h8.kept (congrFun (n 1 rfl) 1) (n 2 rfl) (nf 2 (by decide) (by decide) (by decide)) (n 47 rfl)⟩
theorem cpM_o (m : gMem) {dst s k : Nat} (h0 : k ≠ dst) (h1 : k ≠ dst + 1) (h2 : k ≠ dst + 2) (h3 : k ≠ dst + 3) (h4 : k ≠ dst + 4) : (cpM m dst s).1 k = m.1 k := by
  rw [cpM, gup_k _ _ h0, gupA_k _ _ h4, gupA_k _ _ h3, gupA_k _ _ h2, gupA_k _ _ h1]
theorem op_keep_0 {O : gOm} {d : Nat} {m : gMem} (h0 : Inv m) : OpOk O (d + 4) kX6_keep kX7_keep [.int (nI 0)] m := by
  obtain ⟨P, N, lw, hr, a, c, L, lim, h1, h2, h3, h4, h5, h6, h7, h8⟩ := h0
  have s4 := h4.1.1
  have h11 := h4.2.1
  have hs : iR (nI 0) 2 = true := iR_nI (by decide) (by decide)
  refine ⟨(nI hr), (gup (cpM m 14 3) 14 5 (nI 1)), (gupA (gup (gup (gup (cpM m 14 3) 14 5 (nI 1)) 46 0 (nI 0)) 59 0 (nI 1)) 58 (lyP (m.1 58) (m.1 52) (58 * 0) (m.1 46 11))), ?_, ?_, ?_⟩
  · show Go O (d + 4) kX6_keep _ _ 0 [.ref 0, .int (nI 0)] [] m
    refine go_iload_n dX6_keep_0 rfl ?_
    refine go_if_lt 9 dX6_keep_1 (by decide) (fun h => absurd h (by decide +kernel)) (fun h1 => ?_)
    refine go_iload_n dX6_keep_4 rfl ?_
    refine go_iconst (nI 2) dX6_keep_5 (by decide +kernel) ?_
    refine go_icmp_lt 11 dX6_keep_6 (by decide) (fun h6 => ?_) (fun h => absurd (by decide +kernel) h)
    refine go_aload_n dX6_keep_11 rfl ?_
    refine go_getc dX6_keep_12 fX6_26 rfl (by decide) (by decide) (by decide) rfl ?_
    refine go_iload_n dX6_keep_15 rfl ?_
    refine go_aald dX6_keep_16 rfl (by decide) rfl (by decide) (by decide) ?_
    refine go_aload_n dX6_keep_17 rfl ?_
    refine go_getc dX6_keep_18 fX6_19 rfl (by decide) (by decide) (by decide) rfl ?_
    refine go_callV0 (K' := kX5_copyFrom) [_] dX6_keep_21 mX6_182 lX5_copyFrom rfl (by decide) rfl (by decide) rfl rfl (Nat.le_of_ble_eq_true rfl) (Nat.le_of_ble_eq_true rfl) (c_copyFrom_14_3) ?_
    refine go_aload_n dX6_keep_24 rfl ?_
    refine go_getc dX6_keep_25 fX6_26 rfl (by decide) (by decide) (by decide) rfl ?_
    refine go_iload_n dX6_keep_28 rfl ?_
    refine go_aald dX6_keep_29 rfl (by decide) rfl (by decide) (by decide) ?_
    refine go_iconst (nI 1) dX6_keep_30 (by decide +kernel) ?_
    refine go_puti dX6_keep_31 fX6_81 rfl (by decide) (by decide) (by decide) rfl (fun _ _ _ h => by cases h; rfl) (Or.inr ⟨rfl, by first | exact Or.inl rfl | exact Or.inr rfl⟩) ?_
    refine go_aload_n dX6_keep_34 rfl ?_
    refine go_getc dX6_keep_35 fX6_19 rfl (by decide) (by decide) (by decide) rfl ?_
    refine go_geti dX6_keep_38 fX6_94 rfl (by decide) (by decide) (by decide) rfl s4 ?_
    exact go_iret dX6_keep_41 rfl rfl rfl
  · show Go O (d + 4) kX7_keep _ _ 0 [.ref 46, .int (nI 0)] [] (gup (cpM m 14 3) 14 5 (nI 1))
    refine go_aload_n dX7_keep_0 rfl ?_
    refine go_iconst (nI 0) dX7_keep_1 (by decide +kernel) ?_
    refine go_puti dX7_keep_2 fX7_77 rfl (by decide) (by decide) (by decide) rfl (fun _ _ _ h => by cases h; rfl) (Or.inl rfl) ?_
    refine go_iload_n dX7_keep_5 rfl ?_
    refine go_i2l dX7_keep_6 rfl ?_
    refine go_lconst 0 dX7_keep_7 (by decide +kernel) ?_
    refine go_lconst 1 dX7_keep_8 (by decide +kernel) ?_
    refine go_callS1 (K' := kX7_in) [_, _, _] dX7_keep_9 mX7_84 lX7_in rfl rfl (Nat.le_of_ble_eq_true rfl) (Nat.le_of_ble_eq_true rfl) (c_in1) ?_
    refine go_if_ne 17 dX7_keep_12 (by decide) (fun h12 => ?_) (fun h => absurd h (bI_n0.mpr hs))
    refine go_aload_n dX7_keep_17 rfl ?_
    refine go_getc dX7_keep_18 fX7_46 rfl (by decide) (by decide) (by decide) rfl ?_
    refine go_iload_n dX7_keep_21 rfl ?_
    refine go_iconst (nI 1) dX7_keep_22 (by decide +kernel) ?_
    refine go_zast dX7_keep_23 rfl (by decide) rfl (by decide) (by decide) (by first | exact Or.inl rfl | exact Or.inr rfl) ?_
    refine go_aload_n dX7_keep_24 rfl ?_
    refine go_aload_n dX7_keep_25 rfl ?_
    refine go_getc dX7_keep_26 fX7_43 rfl (by decide) (by decide) (by decide) rfl ?_
    refine go_bipush (nI 58) dX7_keep_29 (by decide +kernel) ?_
    refine go_iload_n dX7_keep_31 rfl ?_
    first | refine go_imul_n dX7_keep_32 ?_ | refine go_imul dX7_keep_32 rfl ?_
    refine go_callV0 (K' := kX7_layPage) [_, _] dX7_keep_33 mX7_165 lX7_layPage rfl (by decide) rfl (by decide) rfl rfl (Nat.le_of_ble_eq_true rfl) (Nat.le_of_ble_eq_true rfl) (c_layPage_58 (by decide)) ?_
    refine go_aload_n dX7_keep_36 rfl ?_
    refine go_geti dX7_keep_37 fX7_137 rfl (by decide) (by decide) (by decide) rfl h11 ?_
    exact go_iret dX7_keep_40 rfl rfl rfl
  · refine Inv.mk6 h1 h2 h3 h7 h8 rfl ?_ ?_ (h4.kept rfl rfl rfl rfl rfl rfl rfl) (h5.kept rfl rfl rfl rfl rfl rfl) (h6.put (s := 0) (hr := hr) (f := m.1 52) (by decide) rfl rfl ?_ h4.2.2 ?_ ?_)
    · intro k z1 z2 z3 z4 z5 z6 z7
      rw [gupA_k _ _ z6, gup_k _ _ z7, gup_k _ _ z3, gup_k _ _ (by omega), cpM_o _ (by omega) (by omega) (by omega) (by omega) (by omega)]
    · intro i z1 z2 z3
      rw [gupA_k _ _ (by decide), gup_k _ _ (by decide), gup_i _ _ z1, gup_k _ _ (by decide), cpM_o _ (by decide) (by decide) (by decide) (by decide) (by decide)]
    · rw [gupA_s, h11]
    · exact (h4.1.copy (dst := 14) (by decide)).kept (m' := (gupA (gup (gup (gup (cpM m 14 3) 14 5 (nI 1)) 46 0 (nI 0)) 59 0 (nI 1)) 58 (lyP (m.1 58) (m.1 52) (58 * 0) (m.1 46 11)))) rfl rfl rfl rfl rfl
    · intro s' z1 z2
      obtain rfl : s' = 1 := by omega
      refine ⟨rfl, fun k z3 z4 => ?_⟩
      have z5 : 19 ≤ k := z3
      have z6 : k ≤ 23 := z4
      rw [gupA_k _ _ (by omega), gup_k _ _ (by omega), gup_k _ _ (by omega), gup_k _ _ (by omega), cpM_o _ (by omega) (by omega) (by omega) (by omega) (by omega)]
theorem op_again_0 {O : gOm} {d : Nat} {m : gMem} (h0 : Inv m) : OpOk O (d + 4) kX6_again kX7_again [.int (nI 0)] m := by
  have hthr := h0.thr
  obtain ⟨P, N, lw, hr, a, c, L, lim, h1, h2, h3, h4, h5, h6, h7, h8⟩ := h0
  have hs : iR (nI 0) 2 = true := iR_nI (by decide) (by decide)
  obtain ⟨b, k1, k2, k3⟩ := h6 0 (by decide)
  cases b with
  | false =>
    refine ⟨(-3), m, gup m 46 0 (nI 0), ?_, ?_, hthr⟩
    · show Go O (d + 4) kX6_again _ _ 0 [.ref 0, .int (nI 0)] [] m
      refine go_iload_n dX6_again_0 rfl ?_
      refine go_if_lt 9 dX6_again_1 (by decide) (fun h => absurd h (by decide +kernel)) (fun h1 => ?_)
      refine go_iload_n dX6_again_4 rfl ?_
      refine go_iconst (nI 2) dX6_again_5 (by decide +kernel) ?_
      refine go_icmp_lt 11 dX6_again_6 (by decide) (fun h6 => ?_) (fun h => absurd (by decide +kernel) h)
      refine go_aload_n dX6_again_11 rfl ?_
      refine go_getc dX6_again_12 fX6_26 rfl (by decide) (by decide) (by decide) rfl ?_
      refine go_iload_n dX6_again_15 rfl ?_
      refine go_aald dX6_again_16 rfl (by decide) rfl (by decide) (by decide) ?_
      refine go_geti dX6_again_17 fX6_81 rfl (by decide) (by decide) (by decide) rfl k1 ?_
      refine go_if_ne 26 dX6_again_20 (by decide) (fun h => absurd h (fun q => q rfl)) (fun h20 => ?_)
      refine go_bipush (-3) dX6_again_23 (by decide +kernel) ?_
      exact go_iret dX6_again_25 rfl rfl rfl
    · show Go O (d + 4) kX7_again _ _ 0 [.ref 46, .int (nI 0)] [] m
      refine go_aload_n dX7_again_0 rfl ?_
      refine go_iconst (nI 0) dX7_again_1 (by decide +kernel) ?_
      refine go_puti dX7_again_2 fX7_77 rfl (by decide) (by decide) (by decide) rfl (fun _ _ _ h => by cases h; rfl) (Or.inl rfl) ?_
      refine go_iload_n dX7_again_5 rfl ?_
      refine go_i2l dX7_again_6 rfl ?_
      refine go_lconst 0 dX7_again_7 (by decide +kernel) ?_
      refine go_lconst 1 dX7_again_8 (by decide +kernel) ?_
      refine go_callS1 (K' := kX7_in) [_, _, _] dX7_again_9 mX7_84 lX7_in rfl rfl (Nat.le_of_ble_eq_true rfl) (Nat.le_of_ble_eq_true rfl) (c_in1) ?_
      refine go_if_ne 17 dX7_again_12 (by decide) (fun h12 => ?_) (fun h => absurd h (bI_n0.mpr hs))
      refine go_aload_n dX7_again_17 rfl ?_
      refine go_getc dX7_again_18 fX7_46 rfl (by decide) (by decide) (by decide) rfl ?_
      refine go_iload_n dX7_again_21 rfl ?_
      refine go_zald dX7_again_22 rfl (by decide) rfl (by decide) (by decide) k2 ?_
      refine go_if_ne 29 dX7_again_23 (by decide) (fun h => absurd h (fun q => q rfl)) (fun h23 => ?_)
      refine go_bipush (-3) dX7_again_26 (by decide +kernel) ?_
      exact go_iret dX7_again_28 rfl rfl rfl
  | true =>
    obtain ⟨f, hr', q1, q2, q3, q4⟩ := k3 rfl
    replace q4 : StP m 14 f hr' := q4
    have q4h := q4.1
    refine ⟨(nI hr'), (gup (cpM m 3 14) 24 1 (nI 0)), (gup (gup (gupA (gup (gup (cpM m 3 14) 24 1 (nI 0)) 46 0 (nI 0)) 52 (cpP (m.1 52) (fun j => m.1 58 (58 * 0 + j)) 0 58)) 46 11 (m.1 58 (58 * 0 + 57))) 46 21 (nI 0)), ?_, ?_, ?_⟩
    · show Go O (d + 4) kX6_again _ _ 0 [.ref 0, .int (nI 0)] [] m
      refine go_iload_n dX6_again_0 rfl ?_
      refine go_if_lt 9 dX6_again_1 (by decide) (fun h => absurd h (by decide +kernel)) (fun h1 => ?_)
      refine go_iload_n dX6_again_4 rfl ?_
      refine go_iconst (nI 2) dX6_again_5 (by decide +kernel) ?_
      refine go_icmp_lt 11 dX6_again_6 (by decide) (fun h6 => ?_) (fun h => absurd (by decide +kernel) h)
      refine go_aload_n dX6_again_11 rfl ?_
      refine go_getc dX6_again_12 fX6_26 rfl (by decide) (by decide) (by decide) rfl ?_
      refine go_iload_n dX6_again_15 rfl ?_
      refine go_aald dX6_again_16 rfl (by decide) rfl (by decide) (by decide) ?_
      refine go_geti dX6_again_17 fX6_81 rfl (by decide) (by decide) (by decide) rfl k1 ?_
      refine go_if_ne 26 dX6_again_20 (by decide) (fun h20 => ?_) (fun h => absurd h (by decide +kernel))
      refine go_aload_n dX6_again_26 rfl ?_
      refine go_getc dX6_again_27 fX6_19 rfl (by decide) (by decide) (by decide) rfl ?_
      refine go_aload_n dX6_again_30 rfl ?_
      refine go_getc dX6_again_31 fX6_26 rfl (by decide) (by decide) (by decide) rfl ?_
      refine go_iload_n dX6_again_34 rfl ?_
      refine go_aald dX6_again_35 rfl (by decide) rfl (by decide) (by decide) ?_
      refine go_callV0 (K' := kX5_copyFrom) [_] dX6_again_36 mX6_182 lX5_copyFrom rfl (by decide) rfl (by decide) rfl rfl (Nat.le_of_ble_eq_true rfl) (Nat.le_of_ble_eq_true rfl) (c_copyFrom_3_14) ?_
      refine go_aload_n dX6_again_39 rfl ?_
      refine go_getc dX6_again_40 fX6_33 rfl (by decide) (by decide) (by decide) rfl ?_
      refine go_iconst (nI 0) dX6_again_43 (by decide +kernel) ?_
      refine go_puti dX6_again_44 fX6_78 rfl (by decide) (by decide) (by decide) rfl (fun _ _ _ h => by cases h; rfl) (Or.inl rfl) ?_
      refine go_aload_n dX6_again_47 rfl ?_
      refine go_getc dX6_again_48 fX6_19 rfl (by decide) (by decide) (by decide) rfl ?_
      refine go_geti dX6_again_51 fX6_94 rfl (by decide) (by decide) (by decide) rfl q4h ?_
      exact go_iret dX6_again_54 rfl rfl rfl
    · show Go O (d + 4) kX7_again _ _ 0 [.ref 46, .int (nI 0)] [] (gup (cpM m 3 14) 24 1 (nI 0))
      refine go_aload_n dX7_again_0 rfl ?_
      refine go_iconst (nI 0) dX7_again_1 (by decide +kernel) ?_
      refine go_puti dX7_again_2 fX7_77 rfl (by decide) (by decide) (by decide) rfl (fun _ _ _ h => by cases h; rfl) (Or.inl rfl) ?_
      refine go_iload_n dX7_again_5 rfl ?_
      refine go_i2l dX7_again_6 rfl ?_
      refine go_lconst 0 dX7_again_7 (by decide +kernel) ?_
      refine go_lconst 1 dX7_again_8 (by decide +kernel) ?_
      refine go_callS1 (K' := kX7_in) [_, _, _] dX7_again_9 mX7_84 lX7_in rfl rfl (Nat.le_of_ble_eq_true rfl) (Nat.le_of_ble_eq_true rfl) (c_in1) ?_
      refine go_if_ne 17 dX7_again_12 (by decide) (fun h12 => ?_) (fun h => absurd h (bI_n0.mpr hs))
      refine go_aload_n dX7_again_17 rfl ?_
      refine go_getc dX7_again_18 fX7_46 rfl (by decide) (by decide) (by decide) rfl ?_
      refine go_iload_n dX7_again_21 rfl ?_
      refine go_zald dX7_again_22 rfl (by decide) rfl (by decide) (by decide) k2 ?_
      refine go_if_ne 29 dX7_again_23 (by decide) (fun h23 => ?_) (fun h => absurd h (by decide +kernel))
      refine go_aload_n dX7_again_29 rfl ?_
      refine go_aload_n dX7_again_30 rfl ?_
      refine go_getc dX7_again_31 fX7_43 rfl (by decide) (by decide) (by decide) rfl ?_
      refine go_bipush (nI 58) dX7_again_34 (by decide +kernel) ?_
      refine go_iload_n dX7_again_36 rfl ?_
      first | refine go_imul_n dX7_again_37 ?_ | refine go_imul dX7_again_37 rfl ?_
      refine go_callV0 (K' := kX7_takePage) [_, _] dX7_again_38 mX7_176 lX7_takePage rfl (by decide) rfl (by decide) rfl rfl (Nat.le_of_ble_eq_true rfl) (Nat.le_of_ble_eq_true rfl) (c_takePage_58 (by decide)) ?_
      refine go_aload_n dX7_again_41 rfl ?_
      refine go_iconst (nI 0) dX7_again_42 (by decide +kernel) ?_
      refine go_puti dX7_again_43 fX7_140 rfl (by decide) (by decide) (by decide) rfl (fun _ _ _ h => by cases h; rfl) (Or.inl rfl) ?_
      refine go_aload_n dX7_again_46 rfl ?_
      refine go_geti dX7_again_47 fX7_137 rfl (by decide) (by decide) (by decide) rfl q2 ?_
      exact go_iret dX7_again_50 rfl rfl rfl
    · have ep : PgE f (((gup (gup (gupA (gup (gup (cpM m 3 14) 24 1 (nI 0)) 46 0 (nI 0)) 52 (cpP (m.1 52) (fun j => m.1 58 (58 * 0 + j)) 0 58)) 46 11 (m.1 58 (58 * 0 + 57))) 46 21 (nI 0))).1 52) := by
        intro j hj
        show f j = cpP (m.1 52) (fun j => m.1 58 (58 * 0 + j)) 0 58 j
        rw [cpP_pg _ _ j hj]
        exact (q1 j hj).symm
      refine Inv.mk6 (hr' := hr') (a' := 0) h1 h2 h3 h7 h8 rfl ?_ ?_ ⟨?_, q2, q3.of ep⟩ ⟨Nat.zero_le _, rfl, rfl, fun _ => ((gup (gup (gupA (gup (gup (cpM m 3 14) 24 1 (nI 0)) 46 0 (nI 0)) 52 (cpP (m.1 52) (fun j => m.1 58 (58 * 0 + j)) 0 58)) 46 11 (m.1 58 (58 * 0 + 57))) 46 21 (nI 0))).1 52, fun _ => hr', PgE.rf _, rfl, fun i hi => absurd hi (by omega)⟩ (h6.kept rfl rfl rfl rfl rfl rfl rfl rfl rfl rfl rfl rfl)
      · intro k z1 z2 z3 z4 z5 z6 z7
        rw [gup_k _ _ z3, gup_k _ _ z3, gupA_k _ _ z4, gup_k _ _ z3, gup_k _ _ (by omega), cpM_o _ (by omega) (by omega) (by omega) (by omega) (by omega)]
      · intro i z1 z2 z3
        rw [gup_i _ _ z3, gup_i _ _ z2, gupA_k _ _ (by decide), gup_i _ _ z1, gup_k _ _ (by decide), cpM_o _ (by decide) (by decide) (by decide) (by decide) (by decide)]
      · exact ((q4.copy (dst := 3) (by decide)).kept (m' := (gup (gup (gupA (gup (gup (cpM m 3 14) 24 1 (nI 0)) 46 0 (nI 0)) 52 (cpP (m.1 52) (fun j => m.1 58 (58 * 0 + j)) 0 58)) 46 11 (m.1 58 (58 * 0 + 57))) 46 21 (nI 0))) rfl rfl rfl rfl rfl).of ep
theorem op_keep_1 {O : gOm} {d : Nat} {m : gMem} (h0 : Inv m) : OpOk O (d + 4) kX6_keep kX7_keep [.int (nI 1)] m := by
  obtain ⟨P, N, lw, hr, a, c, L, lim, h1, h2, h3, h4, h5, h6, h7, h8⟩ := h0
  have s4 := h4.1.1
  have h11 := h4.2.1
  have hs : iR (nI 1) 2 = true := iR_nI (by decide) (by decide)
  refine ⟨(nI hr), (gup (cpM m 19 3) 19 5 (nI 1)), (gupA (gup (gup (gup (cpM m 19 3) 19 5 (nI 1)) 46 0 (nI 0)) 59 1 (nI 1)) 58 (lyP (m.1 58) (m.1 52) (58 * 1) (m.1 46 11))), ?_, ?_, ?_⟩
  · show Go O (d + 4) kX6_keep _ _ 0 [.ref 0, .int (nI 1)] [] m
    refine go_iload_n dX6_keep_0 rfl ?_
    refine go_if_lt 9 dX6_keep_1 (by decide) (fun h => absurd h (by decide +kernel)) (fun h1 => ?_)
    refine go_iload_n dX6_keep_4 rfl ?_
    refine go_iconst (nI 2) dX6_keep_5 (by decide +kernel) ?_
    refine go_icmp_lt 11 dX6_keep_6 (by decide) (fun h6 => ?_) (fun h => absurd (by decide +kernel) h)
    refine go_aload_n dX6_keep_11 rfl ?_
    refine go_getc dX6_keep_12 fX6_26 rfl (by decide) (by decide) (by decide) rfl ?_
    refine go_iload_n dX6_keep_15 rfl ?_
    refine go_aald dX6_keep_16 rfl (by decide) rfl (by decide) (by decide) ?_
    refine go_aload_n dX6_keep_17 rfl ?_
    refine go_getc dX6_keep_18 fX6_19 rfl (by decide) (by decide) (by decide) rfl ?_
    refine go_callV0 (K' := kX5_copyFrom) [_] dX6_keep_21 mX6_182 lX5_copyFrom rfl (by decide) rfl (by decide) rfl rfl (Nat.le_of_ble_eq_true rfl) (Nat.le_of_ble_eq_true rfl) (c_copyFrom_19_3) ?_
    refine go_aload_n dX6_keep_24 rfl ?_
    refine go_getc dX6_keep_25 fX6_26 rfl (by decide) (by decide) (by decide) rfl ?_
    refine go_iload_n dX6_keep_28 rfl ?_
    refine go_aald dX6_keep_29 rfl (by decide) rfl (by decide) (by decide) ?_
    refine go_iconst (nI 1) dX6_keep_30 (by decide +kernel) ?_
    refine go_puti dX6_keep_31 fX6_81 rfl (by decide) (by decide) (by decide) rfl (fun _ _ _ h => by cases h; rfl) (Or.inr ⟨rfl, by first | exact Or.inl rfl | exact Or.inr rfl⟩) ?_
    refine go_aload_n dX6_keep_34 rfl ?_
    refine go_getc dX6_keep_35 fX6_19 rfl (by decide) (by decide) (by decide) rfl ?_
    refine go_geti dX6_keep_38 fX6_94 rfl (by decide) (by decide) (by decide) rfl s4 ?_
    exact go_iret dX6_keep_41 rfl rfl rfl
  · show Go O (d + 4) kX7_keep _ _ 0 [.ref 46, .int (nI 1)] [] (gup (cpM m 19 3) 19 5 (nI 1))
    refine go_aload_n dX7_keep_0 rfl ?_
    refine go_iconst (nI 0) dX7_keep_1 (by decide +kernel) ?_
    refine go_puti dX7_keep_2 fX7_77 rfl (by decide) (by decide) (by decide) rfl (fun _ _ _ h => by cases h; rfl) (Or.inl rfl) ?_
    refine go_iload_n dX7_keep_5 rfl ?_
    refine go_i2l dX7_keep_6 rfl ?_
    refine go_lconst 0 dX7_keep_7 (by decide +kernel) ?_
    refine go_lconst 1 dX7_keep_8 (by decide +kernel) ?_
    refine go_callS1 (K' := kX7_in) [_, _, _] dX7_keep_9 mX7_84 lX7_in rfl rfl (Nat.le_of_ble_eq_true rfl) (Nat.le_of_ble_eq_true rfl) (c_in1) ?_
    refine go_if_ne 17 dX7_keep_12 (by decide) (fun h12 => ?_) (fun h => absurd h (bI_n0.mpr hs))
    refine go_aload_n dX7_keep_17 rfl ?_
    refine go_getc dX7_keep_18 fX7_46 rfl (by decide) (by decide) (by decide) rfl ?_
    refine go_iload_n dX7_keep_21 rfl ?_
    refine go_iconst (nI 1) dX7_keep_22 (by decide +kernel) ?_
    refine go_zast dX7_keep_23 rfl (by decide) rfl (by decide) (by decide) (by first | exact Or.inl rfl | exact Or.inr rfl) ?_
    refine go_aload_n dX7_keep_24 rfl ?_
    refine go_aload_n dX7_keep_25 rfl ?_
    refine go_getc dX7_keep_26 fX7_43 rfl (by decide) (by decide) (by decide) rfl ?_
    refine go_bipush (nI 58) dX7_keep_29 (by decide +kernel) ?_
    refine go_iload_n dX7_keep_31 rfl ?_
    first | refine go_imul_n dX7_keep_32 ?_ | refine go_imul dX7_keep_32 rfl ?_
    refine go_callV0 (K' := kX7_layPage) [_, _] dX7_keep_33 mX7_165 lX7_layPage rfl (by decide) rfl (by decide) rfl rfl (Nat.le_of_ble_eq_true rfl) (Nat.le_of_ble_eq_true rfl) (c_layPage_58 (by decide)) ?_
    refine go_aload_n dX7_keep_36 rfl ?_
    refine go_geti dX7_keep_37 fX7_137 rfl (by decide) (by decide) (by decide) rfl h11 ?_
    exact go_iret dX7_keep_40 rfl rfl rfl
  · refine Inv.mk6 h1 h2 h3 h7 h8 rfl ?_ ?_ (h4.kept rfl rfl rfl rfl rfl rfl rfl) (h5.kept rfl rfl rfl rfl rfl rfl) (h6.put (s := 1) (hr := hr) (f := m.1 52) (by decide) rfl rfl ?_ h4.2.2 ?_ ?_)
    · intro k z1 z2 z3 z4 z5 z6 z7
      rw [gupA_k _ _ z6, gup_k _ _ z7, gup_k _ _ z3, gup_k _ _ (by omega), cpM_o _ (by omega) (by omega) (by omega) (by omega) (by omega)]
    · intro i z1 z2 z3
      rw [gupA_k _ _ (by decide), gup_k _ _ (by decide), gup_i _ _ z1, gup_k _ _ (by decide), cpM_o _ (by decide) (by decide) (by decide) (by decide) (by decide)]
    · rw [gupA_s, h11]
    · exact (h4.1.copy (dst := 19) (by decide)).kept (m' := (gupA (gup (gup (gup (cpM m 19 3) 19 5 (nI 1)) 46 0 (nI 0)) 59 1 (nI 1)) 58 (lyP (m.1 58) (m.1 52) (58 * 1) (m.1 46 11)))) rfl rfl rfl rfl rfl
    · intro s' z1 z2
      obtain rfl : s' = 0 := by omega
      refine ⟨rfl, fun k z3 z4 => ?_⟩
      have z5 : 14 ≤ k := z3
      have z6 : k ≤ 18 := z4
      rw [gupA_k _ _ (by omega), gup_k _ _ (by omega), gup_k _ _ (by omega), gup_k _ _ (by omega), cpM_o _ (by omega) (by omega) (by omega) (by omega) (by omega)]
theorem op_again_1 {O : gOm} {d : Nat} {m : gMem} (h0 : Inv m) : OpOk O (d + 4) kX6_again kX7_again [.int (nI 1)] m := by
  have hthr := h0.thr
  obtain ⟨P, N, lw, hr, a, c, L, lim, h1, h2, h3, h4, h5, h6, h7, h8⟩ := h0
  have hs : iR (nI 1) 2 = true := iR_nI (by decide) (by decide)
  obtain ⟨b, k1, k2, k3⟩ := h6 1 (by decide)
  cases b with
  | false =>
    refine ⟨(-3), m, gup m 46 0 (nI 0), ?_, ?_, hthr⟩
    · show Go O (d + 4) kX6_again _ _ 0 [.ref 0, .int (nI 1)] [] m
      refine go_iload_n dX6_again_0 rfl ?_
      refine go_if_lt 9 dX6_again_1 (by decide) (fun h => absurd h (by decide +kernel)) (fun h1 => ?_)
      refine go_iload_n dX6_again_4 rfl ?_
      refine go_iconst (nI 2) dX6_again_5 (by decide +kernel) ?_
      refine go_icmp_lt 11 dX6_again_6 (by decide) (fun h6 => ?_) (fun h => absurd (by decide +kernel) h)
      refine go_aload_n dX6_again_11 rfl ?_
      refine go_getc dX6_again_12 fX6_26 rfl (by decide) (by decide) (by decide) rfl ?_
      refine go_iload_n dX6_again_15 rfl ?_
      refine go_aald dX6_again_16 rfl (by decide) rfl (by decide) (by decide) ?_
      refine go_geti dX6_again_17 fX6_81 rfl (by decide) (by decide) (by decide) rfl k1 ?_
      refine go_if_ne 26 dX6_again_20 (by decide) (fun h => absurd h (fun q => q rfl)) (fun h20 => ?_)
      refine go_bipush (-3) dX6_again_23 (by decide +kernel) ?_
      exact go_iret dX6_again_25 rfl rfl rfl
    · show Go O (d + 4) kX7_again _ _ 0 [.ref 46, .int (nI 1)] [] m
      refine go_aload_n dX7_again_0 rfl ?_
      refine go_iconst (nI 0) dX7_again_1 (by decide +kernel) ?_
      refine go_puti dX7_again_2 fX7_77 rfl (by decide) (by decide) (by decide) rfl (fun _ _ _ h => by cases h; rfl) (Or.inl rfl) ?_
      refine go_iload_n dX7_again_5 rfl ?_
      refine go_i2l dX7_again_6 rfl ?_
      refine go_lconst 0 dX7_again_7 (by decide +kernel) ?_
      refine go_lconst 1 dX7_again_8 (by decide +kernel) ?_
      refine go_callS1 (K' := kX7_in) [_, _, _] dX7_again_9 mX7_84 lX7_in rfl rfl (Nat.le_of_ble_eq_true rfl) (Nat.le_of_ble_eq_true rfl) (c_in1) ?_
      refine go_if_ne 17 dX7_again_12 (by decide) (fun h12 => ?_) (fun h => absurd h (bI_n0.mpr hs))
      refine go_aload_n dX7_again_17 rfl ?_
      refine go_getc dX7_again_18 fX7_46 rfl (by decide) (by decide) (by decide) rfl ?_
      refine go_iload_n dX7_again_21 rfl ?_
      refine go_zald dX7_again_22 rfl (by decide) rfl (by decide) (by decide) k2 ?_
      refine go_if_ne 29 dX7_again_23 (by decide) (fun h => absurd h (fun q => q rfl)) (fun h23 => ?_)
      refine go_bipush (-3) dX7_again_26 (by decide +kernel) ?_
      exact go_iret dX7_again_28 rfl rfl rfl
  | true =>
    obtain ⟨f, hr', q1, q2, q3, q4⟩ := k3 rfl
    replace q4 : StP m 19 f hr' := q4
    have q4h := q4.1
    refine ⟨(nI hr'), (gup (cpM m 3 19) 24 1 (nI 0)), (gup (gup (gupA (gup (gup (cpM m 3 19) 24 1 (nI 0)) 46 0 (nI 0)) 52 (cpP (m.1 52) (fun j => m.1 58 (58 * 1 + j)) 0 58)) 46 11 (m.1 58 (58 * 1 + 57))) 46 21 (nI 0)), ?_, ?_, ?_⟩
    · show Go O (d + 4) kX6_again _ _ 0 [.ref 0, .int (nI 1)] [] m
      refine go_iload_n dX6_again_0 rfl ?_
      refine go_if_lt 9 dX6_again_1 (by decide) (fun h => absurd h (by decide +kernel)) (fun h1 => ?_)
      refine go_iload_n dX6_again_4 rfl ?_
      refine go_iconst (nI 2) dX6_again_5 (by decide +kernel) ?_
      refine go_icmp_lt 11 dX6_again_6 (by decide) (fun h6 => ?_) (fun h => absurd (by decide +kernel) h)
      refine go_aload_n dX6_again_11 rfl ?_
      refine go_getc dX6_again_12 fX6_26 rfl (by decide) (by decide) (by decide) rfl ?_
      refine go_iload_n dX6_again_15 rfl ?_
      refine go_aald dX6_again_16 rfl (by decide) rfl (by decide) (by decide) ?_
      refine go_geti dX6_again_17 fX6_81 rfl (by decide) (by decide) (by decide) rfl k1 ?_
      refine go_if_ne 26 dX6_again_20 (by decide) (fun h20 => ?_) (fun h => absurd h (by decide +kernel))
      refine go_aload_n dX6_again_26 rfl ?_
      refine go_getc dX6_again_27 fX6_19 rfl (by decide) (by decide) (by decide) rfl ?_
      refine go_aload_n dX6_again_30 rfl ?_
      refine go_getc dX6_again_31 fX6_26 rfl (by decide) (by decide) (by decide) rfl ?_
      refine go_iload_n dX6_again_34 rfl ?_
      refine go_aald dX6_again_35 rfl (by decide) rfl (by decide) (by decide) ?_
      refine go_callV0 (K' := kX5_copyFrom) [_] dX6_again_36 mX6_182 lX5_copyFrom rfl (by decide) rfl (by decide) rfl rfl (Nat.le_of_ble_eq_true rfl) (Nat.le_of_ble_eq_true rfl) (c_copyFrom_3_19) ?_
      refine go_aload_n dX6_again_39 rfl ?_
      refine go_getc dX6_again_40 fX6_33 rfl (by decide) (by decide) (by decide) rfl ?_
      refine go_iconst (nI 0) dX6_again_43 (by decide +kernel) ?_
      refine go_puti dX6_again_44 fX6_78 rfl (by decide) (by decide) (by decide) rfl (fun _ _ _ h => by cases h; rfl) (Or.inl rfl) ?_
      refine go_aload_n dX6_again_47 rfl ?_
      refine go_getc dX6_again_48 fX6_19 rfl (by decide) (by decide) (by decide) rfl ?_
      refine go_geti dX6_again_51 fX6_94 rfl (by decide) (by decide) (by decide) rfl q4h ?_
      exact go_iret dX6_again_54 rfl rfl rfl
    · show Go O (d + 4) kX7_again _ _ 0 [.ref 46, .int (nI 1)] [] (gup (cpM m 3 19) 24 1 (nI 0))
      refine go_aload_n dX7_again_0 rfl ?_
      refine go_iconst (nI 0) dX7_again_1 (by decide +kernel) ?_
      refine go_puti dX7_again_2 fX7_77 rfl (by decide) (by decide) (by decide) rfl (fun _ _ _ h => by cases h; rfl) (Or.inl rfl) ?_
      refine go_iload_n dX7_again_5 rfl ?_
      refine go_i2l dX7_again_6 rfl ?_
      refine go_lconst 0 dX7_again_7 (by decide +kernel) ?_
      refine go_lconst 1 dX7_again_8 (by decide +kernel) ?_
      refine go_callS1 (K' := kX7_in) [_, _, _] dX7_again_9 mX7_84 lX7_in rfl rfl (Nat.le_of_ble_eq_true rfl) (Nat.le_of_ble_eq_true rfl) (c_in1) ?_
      refine go_if_ne 17 dX7_again_12 (by decide) (fun h12 => ?_) (fun h => absurd h (bI_n0.mpr hs))
      refine go_aload_n dX7_again_17 rfl ?_
      refine go_getc dX7_again_18 fX7_46 rfl (by decide) (by decide) (by decide) rfl ?_
      refine go_iload_n dX7_again_21 rfl ?_
      refine go_zald dX7_again_22 rfl (by decide) rfl (by decide) (by decide) k2 ?_
      refine go_if_ne 29 dX7_again_23 (by decide) (fun h23 => ?_) (fun h => absurd h (by decide +kernel))
      refine go_aload_n dX7_again_29 rfl ?_
      refine go_aload_n dX7_again_30 rfl ?_
      refine go_getc dX7_again_31 fX7_43 rfl (by decide) (by decide) (by decide) rfl ?_
      refine go_bipush (nI 58) dX7_again_34 (by decide +kernel) ?_
      refine go_iload_n dX7_again_36 rfl ?_
      first | refine go_imul_n dX7_again_37 ?_ | refine go_imul dX7_again_37 rfl ?_
      refine go_callV0 (K' := kX7_takePage) [_, _] dX7_again_38 mX7_176 lX7_takePage rfl (by decide) rfl (by decide) rfl rfl (Nat.le_of_ble_eq_true rfl) (Nat.le_of_ble_eq_true rfl) (c_takePage_58 (by decide)) ?_
      refine go_aload_n dX7_again_41 rfl ?_
      refine go_iconst (nI 0) dX7_again_42 (by decide +kernel) ?_
      refine go_puti dX7_again_43 fX7_140 rfl (by decide) (by decide) (by decide) rfl (fun _ _ _ h => by cases h; rfl) (Or.inl rfl) ?_
      refine go_aload_n dX7_again_46 rfl ?_
      refine go_geti dX7_again_47 fX7_137 rfl (by decide) (by decide) (by decide) rfl q2 ?_
      exact go_iret dX7_again_50 rfl rfl rfl
    · have ep : PgE f (((gup (gup (gupA (gup (gup (cpM m 3 19) 24 1 (nI 0)) 46 0 (nI 0)) 52 (cpP (m.1 52) (fun j => m.1 58 (58 * 1 + j)) 0 58)) 46 11 (m.1 58 (58 * 1 + 57))) 46 21 (nI 0))).1 52) := by
        intro j hj
        show f j = cpP (m.1 52) (fun j => m.1 58 (58 * 1 + j)) 0 58 j
        rw [cpP_pg _ _ j hj]
        exact (q1 j hj).symm
      refine Inv.mk6 (hr' := hr') (a' := 0) h1 h2 h3 h7 h8 rfl ?_ ?_ ⟨?_, q2, q3.of ep⟩ ⟨Nat.zero_le _, rfl, rfl, fun _ => ((gup (gup (gupA (gup (gup (cpM m 3 19) 24 1 (nI 0)) 46 0 (nI 0)) 52 (cpP (m.1 52) (fun j => m.1 58 (58 * 1 + j)) 0 58)) 46 11 (m.1 58 (58 * 1 + 57))) 46 21 (nI 0))).1 52, fun _ => hr', PgE.rf _, rfl, fun i hi => absurd hi (by omega)⟩ (h6.kept rfl rfl rfl rfl rfl rfl rfl rfl rfl rfl rfl rfl)
      · intro k z1 z2 z3 z4 z5 z6 z7
        rw [gup_k _ _ z3, gup_k _ _ z3, gupA_k _ _ z4, gup_k _ _ z3, gup_k _ _ (by omega), cpM_o _ (by omega) (by omega) (by omega) (by omega) (by omega)]
      · intro i z1 z2 z3
        rw [gup_i _ _ z3, gup_i _ _ z2, gupA_k _ _ (by decide), gup_i _ _ z1, gup_k _ _ (by decide), cpM_o _ (by decide) (by decide) (by decide) (by decide) (by decide)]
      · exact ((q4.copy (dst := 3) (by decide)).kept (m' := (gup (gup (gupA (gup (gup (cpM m 3 19) 24 1 (nI 0)) 46 0 (nI 0)) 52 (cpP (m.1 52) (fun j => m.1 58 (58 * 1 + j)) 0 58)) 46 11 (m.1 58 (58 * 1 + 57))) 46 21 (nI 0))) rfl rfl rfl rfl rfl).of ep
theorem op_keep {O : gOm} {d : Nat} {m : gMem} {x : Int32} (h0 : Inv m) : OpOk O (d + 4) kX6_keep kX7_keep [.int x] m := by
  cases hx : iR x 2 with
  | true =>
    obtain ⟨j, hj, rfl⟩ := iR_of hx
    rcases lt2 hj with rfl | rfl
    · exact op_keep_0 h0
    · exact op_keep_1 h0
  | false =>
    refine ⟨(-1), m, gup m 46 0 (nI 0), ?_, ?_, h0.thr⟩
    · show Go O (d + 4) kX6_keep _ _ 0 [.ref 0, .int x] [] m
      refine go_iload_n dX6_keep_0 rfl ?_
      refine go_if_lt 9 dX6_keep_1 (by decide) (fun h1 => ?_) (fun h1 => ?_)
      · refine go_iconst (-1) dX6_keep_9 (by decide +kernel) ?_
        exact go_iret dX6_keep_10 rfl rfl rfl
      · have z1 := h1
        refine go_iload_n dX6_keep_4 rfl ?_
        refine go_iconst (nI 2) dX6_keep_5 (by decide +kernel) ?_
        refine go_icmp_lt 11 dX6_keep_6 (by decide) (fun h => absurd h (fun q => absurd (iR_mid (n := 2) (by decide) h1 (Int32.not_le.mpr q)) (by rw [hx]; decide))) (fun h6 => ?_)
        refine go_iconst (-1) dX6_keep_9 (by decide +kernel) ?_
        exact go_iret dX6_keep_10 rfl rfl rfl
    · show Go O (d + 4) kX7_keep _ _ 0 [.ref 46, .int x] [] m
      refine go_aload_n dX7_keep_0 rfl ?_
      refine go_iconst (nI 0) dX7_keep_1 (by decide +kernel) ?_
      refine go_puti dX7_keep_2 fX7_77 rfl (by decide) (by decide) (by decide) rfl (fun _ _ _ h => by cases h; rfl) (Or.inl rfl) ?_
      refine go_iload_n dX7_keep_5 rfl ?_
      refine go_i2l dX7_keep_6 rfl ?_
      refine go_lconst 0 dX7_keep_7 (by decide +kernel) ?_
      refine go_lconst 1 dX7_keep_8 (by decide +kernel) ?_
      refine go_callS1 (K' := kX7_in) [_, _, _] dX7_keep_9 mX7_84 lX7_in rfl rfl (Nat.le_of_ble_eq_true rfl) (Nat.le_of_ble_eq_true rfl) (c_in1) ?_
      refine go_if_ne 17 dX7_keep_12 (by decide) (fun h => absurd h (fun q => q (bI_0.mpr hx))) (fun h12 => ?_)
      refine go_iconst (-1) dX7_keep_15 (by decide +kernel) ?_
      exact go_iret dX7_keep_16 rfl rfl rfl
theorem op_again {O : gOm} {d : Nat} {m : gMem} {x : Int32} (h0 : Inv m) : OpOk O (d + 4) kX6_again kX7_again [.int x] m := by
  cases hx : iR x 2 with
  | true =>
    obtain ⟨j, hj, rfl⟩ := iR_of hx
    rcases lt2 hj with rfl | rfl
    · exact op_again_0 h0
    · exact op_again_1 h0
  | false =>
    refine ⟨(-1), m, gup m 46 0 (nI 0), ?_, ?_, h0.thr⟩
    · show Go O (d + 4) kX6_again _ _ 0 [.ref 0, .int x] [] m
      refine go_iload_n dX6_again_0 rfl ?_
      refine go_if_lt 9 dX6_again_1 (by decide) (fun h1 => ?_) (fun h1 => ?_)
      · refine go_iconst (-1) dX6_again_9 (by decide +kernel) ?_
        exact go_iret dX6_again_10 rfl rfl rfl
      · have z1 := h1
        refine go_iload_n dX6_again_4 rfl ?_
        refine go_iconst (nI 2) dX6_again_5 (by decide +kernel) ?_
        refine go_icmp_lt 11 dX6_again_6 (by decide) (fun h => absurd h (fun q => absurd (iR_mid (n := 2) (by decide) h1 (Int32.not_le.mpr q)) (by rw [hx]; decide))) (fun h6 => ?_)
        refine go_iconst (-1) dX6_again_9 (by decide +kernel) ?_
        exact go_iret dX6_again_10 rfl rfl rfl
    · show Go O (d + 4) kX7_again _ _ 0 [.ref 46, .int x] [] m
      refine go_aload_n dX7_again_0 rfl ?_
      refine go_iconst (nI 0) dX7_again_1 (by decide +kernel) ?_
      refine go_puti dX7_again_2 fX7_77 rfl (by decide) (by decide) (by decide) rfl (fun _ _ _ h => by cases h; rfl) (Or.inl rfl) ?_
      refine go_iload_n dX7_again_5 rfl ?_
      refine go_i2l dX7_again_6 rfl ?_
      refine go_lconst 0 dX7_again_7 (by decide +kernel) ?_
      refine go_lconst 1 dX7_again_8 (by decide +kernel) ?_
      refine go_callS1 (K' := kX7_in) [_, _, _] dX7_again_9 mX7_84 lX7_in rfl rfl (Nat.le_of_ble_eq_true rfl) (Nat.le_of_ble_eq_true rfl) (c_in1) ?_
      refine go_if_ne 17 dX7_again_12 (by decide) (fun h => absurd h (fun q => q (bI_0.mpr hx))) (fun h12 => ?_)
      refine go_iconst (-1) dX7_again_15 (by decide +kernel) ?_
      exact go_iret dX7_again_16 rfl rfl rfl
theorem snA_lt {m m' : gMem} (h : Nat) (b : Bool) : ∀ c, (∀ i, i < c → m'.1 61 i = m.1 61 i ∧ m'.1 62 i = m.1 62 i ∧ m'.1 63 i = m.1 63 i) → snA m' h b c = snA m h b c
  | 0, _ => rfl
  | c + 1, hq => by
    obtain ⟨e1, e2, e3⟩ := hq c (by omega)
    simp only [snA, snA_lt h b c (fun i hi => hq i (by omega)), e1, e2, e3]
theorem seM_k {m : gMem} {h p c k : Nat} {b : Bool} (z1 : k ≠ 26) (z2 : k ≠ 27) (z3 : k ≠ 28) : (seM m h p c b).1 k = m.1 k := by
  rw [seM, gup_k _ _ z1]
  cases b with
  | false => exact gup_k _ _ z3
  | true => exact gup_k _ _ z2
theorem bI_inj {a b : Bool} : bI a = bI b ↔ a = b := by cases a <;> cases b <;> decide +kernel
theorem op_sight_29 {O : gOm} {d : Nat} {m : gMem} {h p : Int32} {b : Bool} (h0 : Inv m) (hT : m.2 0 = 29) : OpOk O (d + 4) kX6_sight kX7_sight [.int h, .int p, .int (bI b)] m := by
  have hthr := h0.thr
  obtain ⟨P, N, lw, hr, a, c, L, lim, h1, h2, h3, h4, h5, h6, h7, h8⟩ := h0
  have hP := h2.1
  have hP6 := h2.2.1
  obtain ⟨t5, t6, t7, tp, tg, tn⟩ : IvT m 29 P N lw := hT ▸ h3
  obtain ⟨x1, x2, x3, x4, x5⟩ := h7
  cases hip : iR p P with
  | false =>
    refine ⟨(-1), m, gup m 46 0 (nI 0), ?_, ?_, hthr⟩
    · show Go O (d + 4) kX6_sight _ _ 0 [.ref 0, .int h, .int p, .int (bI b)] [] m
      refine go_aload_n dX6_sight_0 rfl ?_
      refine go_iload_n dX6_sight_1 rfl ?_
      refine go_callV1 (K' := kX6_isPerson) [_] dX6_sight_2 mX6_105 lX6_isPerson rfl (by decide) rfl (by decide) rfl rfl (Nat.le_of_ble_eq_true rfl) (Nat.le_of_ble_eq_true rfl) (c_isPerson_29 hT t5 hP6) ?_
      refine go_if_ne 10 dX6_sight_5 (by decide) (fun h => absurd h (fun q => q (bI_0.mpr hip))) (fun h5 => ?_)
      refine go_iconst (-1) dX6_sight_8 (by decide +kernel) ?_
      exact go_iret dX6_sight_9 rfl rfl rfl
    · show Go O (d + 4) kX7_sight _ _ 0 [.ref 46, .int h, .int p, .int (bI b)] [] m
      refine go_aload_n dX7_sight_0 rfl ?_
      refine go_iconst (nI 0) dX7_sight_1 (by decide +kernel) ?_
      refine go_puti dX7_sight_2 fX7_77 rfl (by decide) (by decide) (by decide) rfl (fun _ _ _ h => by cases h; rfl) (Or.inl rfl) ?_
      refine go_aload_n dX7_sight_5 rfl ?_
      refine go_iload_n dX7_sight_6 rfl ?_
      refine go_callV1 (K' := kX7_noOne) [_] dX7_sight_7 mX7_150 lX7_noOne rfl (by decide) rfl (by decide) rfl rfl (Nat.le_of_ble_eq_true rfl) (Nat.le_of_ble_eq_true rfl) (c_noOne hP hP6) ?_
      refine go_if_eq 15 dX7_sight_10 (by decide) (fun h => absurd h (bI_n0.mpr (by rw [hip]; rfl))) (fun h10 => ?_)
      refine go_iconst (-1) dX7_sight_13 (by decide +kernel) ?_
      exact go_iret dX7_sight_14 rfl rfl rfl
  | true =>
    obtain ⟨p, hpP, rfl⟩ := iR_of hip
    cases hih : iR h 6 with
    | false =>
      refine ⟨(-2), m, gup m 46 0 (nI 0), ?_, ?_, hthr⟩
      · show Go O (d + 4) kX6_sight _ _ 0 [.ref 0, .int h, .int (nI p), .int (bI b)] [] m
        refine go_aload_n dX6_sight_0 rfl ?_
        refine go_iload_n dX6_sight_1 rfl ?_
        refine go_callV1 (K' := kX6_isPerson) [_] dX6_sight_2 mX6_105 lX6_isPerson rfl (by decide) rfl (by decide) rfl rfl (Nat.le_of_ble_eq_true rfl) (Nat.le_of_ble_eq_true rfl) (c_isPerson_29 hT t5 hP6) ?_
        refine go_if_ne 10 dX6_sight_5 (by decide) (fun h5 => ?_) (fun h => absurd h (bI_n0.mpr hip))
        refine go_iload_n dX6_sight_10 rfl ?_
        refine go_callS1 (K' := kX6_isHour) [_] dX6_sight_11 mX6_109 lX6_isHour rfl rfl (Nat.le_of_ble_eq_true rfl) (Nat.le_of_ble_eq_true rfl) (c_isHour) ?_
        refine go_if_ne 20 dX6_sight_14 (by decide) (fun h => absurd h (fun q => q (bI_0.mpr hih))) (fun h14 => ?_)
        refine go_bipush (-2) dX6_sight_17 (by decide +kernel) ?_
        exact go_iret dX6_sight_19 rfl rfl rfl
      · show Go O (d + 4) kX7_sight _ _ 0 [.ref 46, .int h, .int (nI p), .int (bI b)] [] m
        refine go_aload_n dX7_sight_0 rfl ?_
        refine go_iconst (nI 0) dX7_sight_1 (by decide +kernel) ?_
        refine go_puti dX7_sight_2 fX7_77 rfl (by decide) (by decide) (by decide) rfl (fun _ _ _ h => by cases h; rfl) (Or.inl rfl) ?_
        refine go_aload_n dX7_sight_5 rfl ?_
        refine go_iload_n dX7_sight_6 rfl ?_
        refine go_callV1 (K' := kX7_noOne) [_] dX7_sight_7 mX7_150 lX7_noOne rfl (by decide) rfl (by decide) rfl rfl (Nat.le_of_ble_eq_true rfl) (Nat.le_of_ble_eq_true rfl) (c_noOne hP hP6) ?_
        refine go_if_eq 15 dX7_sight_10 (by decide) (fun h10 => ?_) (fun h => absurd (bI_0.mpr (by rw [hip]; rfl)) h)
        refine go_iload_n dX7_sight_15 rfl ?_
        refine go_i2l dX7_sight_16 rfl ?_
        refine go_lconst 0 dX7_sight_17 (by decide +kernel) ?_
        refine go_ldc2 kcX7_153 dX7_sight_18 ?_
        refine go_callS1 (K' := kX7_in) [_, _, _] dX7_sight_21 mX7_84 lX7_in rfl rfl (Nat.le_of_ble_eq_true rfl) (Nat.le_of_ble_eq_true rfl) (c_in5) ?_
        refine go_if_ne 30 dX7_sight_24 (by decide) (fun h => absurd h (fun q => q (bI_0.mpr hih))) (fun h24 => ?_)
        refine go_bipush (-2) dX7_sight_27 (by decide +kernel) ?_
        exact go_iret dX7_sight_29 rfl rfl rfl
    | true =>
      obtain ⟨h, hh, rfl⟩ := iR_of hih
      rcases Nat.lt_or_ge c 8 with z | z
      · have e46 : ∀ i, ((seM m h p c b)).1 46 i = m.1 46 i := fun i => congrFun (seM_k (by decide) (by decide) (by decide)) i
        refine ⟨(nI (c + 1)), (seM m h p c b), (gup (gup (gup (gup (gup (seM m h p c b) 46 0 (nI 0)) 61 c (nI h)) 62 c (nI p)) 63 c (bI b)) 46 25 (nI (c + 1))), ?_, ?_, ?_⟩
        · show Go O (d + 4) kX6_sight _ _ 0 [.ref 0, .int (nI h), .int (nI p), .int (bI b)] [] m
          refine go_aload_n dX6_sight_0 rfl ?_
          refine go_iload_n dX6_sight_1 rfl ?_
          refine go_callV1 (K' := kX6_isPerson) [_] dX6_sight_2 mX6_105 lX6_isPerson rfl (by decide) rfl (by decide) rfl rfl (Nat.le_of_ble_eq_true rfl) (Nat.le_of_ble_eq_true rfl) (c_isPerson_29 hT t5 hP6) ?_
          refine go_if_ne 10 dX6_sight_5 (by decide) (fun h5 => ?_) (fun h => absurd h (bI_n0.mpr hip))
          refine go_iload_n dX6_sight_10 rfl ?_
          refine go_callS1 (K' := kX6_isHour) [_] dX6_sight_11 mX6_109 lX6_isHour rfl rfl (Nat.le_of_ble_eq_true rfl) (Nat.le_of_ble_eq_true rfl) (c_isHour) ?_
          refine go_if_ne 20 dX6_sight_14 (by decide) (fun h14 => ?_) (fun h => absurd h (bI_n0.mpr hih))
          refine go_aload_n dX6_sight_20 rfl ?_
          refine go_getc dX6_sight_21 fX6_40 rfl (by decide) (by decide) (by decide) rfl ?_
          refine go_geti dX6_sight_24 fX6_104 rfl (by decide) (by decide) (by decide) rfl x2 ?_
          refine go_bipush (nI 8) dX6_sight_27 (by decide +kernel) ?_
          refine go_icmp_lt 35 dX6_sight_29 (by decide) (fun h29 => ?_) (fun h => absurd (nI_lt z (by omega)) h)
          refine go_aload_n dX6_sight_35 rfl ?_
          refine go_getc dX6_sight_36 fX6_40 rfl (by decide) (by decide) (by decide) rfl ?_
          refine go_iload_n dX6_sight_39 rfl ?_
          refine go_iload_n dX6_sight_40 rfl ?_
          refine go_iload_n dX6_sight_41 rfl ?_
          refine go_callV0 (K' := kX4_see) [_, _, _] dX6_sight_42 mX6_237 lX4_see rfl (by decide) rfl (by decide) rfl rfl (Nat.le_of_ble_eq_true rfl) (Nat.le_of_ble_eq_true rfl) (c_see hh (by omega) x2) ?_
          refine go_aload_n dX6_sight_45 rfl ?_
          refine go_getc dX6_sight_46 fX6_40 rfl (by decide) (by decide) (by decide) rfl ?_
          refine go_geti dX6_sight_49 fX6_104 rfl (by decide) (by decide) (by decide) rfl (Eq.refl (nI (c + 1))) ?_
          exact go_iret dX6_sight_52 rfl rfl rfl
        · show Go O (d + 4) kX7_sight _ _ 0 [.ref 46, .int (nI h), .int (nI p), .int (bI b)] [] (seM m h p c b)
          refine go_aload_n dX7_sight_0 rfl ?_
          refine go_iconst (nI 0) dX7_sight_1 (by decide +kernel) ?_
          refine go_puti dX7_sight_2 fX7_77 rfl (by decide) (by decide) (by decide) rfl (fun _ _ _ h => by cases h; rfl) (Or.inl rfl) ?_
          refine go_aload_n dX7_sight_5 rfl ?_
          refine go_iload_n dX7_sight_6 rfl ?_
          refine go_callV1 (K' := kX7_noOne) [_] dX7_sight_7 mX7_150 lX7_noOne rfl (by decide) rfl (by decide) rfl rfl (Nat.le_of_ble_eq_true rfl) (Nat.le_of_ble_eq_true rfl) (c_noOne ((e46 4).trans hP) hP6) ?_
          refine go_if_eq 15 dX7_sight_10 (by decide) (fun h10 => ?_) (fun h => absurd (bI_0.mpr (by rw [hip]; rfl)) h)
          refine go_iload_n dX7_sight_15 rfl ?_
          refine go_i2l dX7_sight_16 rfl ?_
          refine go_lconst 0 dX7_sight_17 (by decide +kernel) ?_
          refine go_ldc2 kcX7_153 dX7_sight_18 ?_
          refine go_callS1 (K' := kX7_in) [_, _, _] dX7_sight_21 mX7_84 lX7_in rfl rfl (Nat.le_of_ble_eq_true rfl) (Nat.le_of_ble_eq_true rfl) (c_in5) ?_
          refine go_if_ne 30 dX7_sight_24 (by decide) (fun h24 => ?_) (fun h => absurd h (bI_n0.mpr hih))
          refine go_aload_n dX7_sight_30 rfl ?_
          refine go_geti dX7_sight_31 fX7_147 rfl (by decide) (by decide) (by decide) rfl ((e46 25).trans x3) ?_
          refine go_bipush (nI 8) dX7_sight_34 (by decide +kernel) ?_
          refine go_icmp_ne 42 dX7_sight_36 (by decide) (fun h36 => ?_) (fun h => absurd h (fun q => absurd ((nI_eq (by omega) (by omega)).mp q) (by omega)))
          refine go_aload_n dX7_sight_42 rfl ?_
          refine go_getc dX7_sight_43 fX7_53 rfl (by decide) (by decide) (by decide) rfl ?_
          refine go_aload_n dX7_sight_46 rfl ?_
          refine go_geti dX7_sight_47 fX7_147 rfl (by decide) (by decide) (by decide) rfl ((e46 25).trans x3) ?_
          refine go_iload_n dX7_sight_50 rfl ?_
          refine go_iast dX7_sight_51 rfl (by decide) rfl (by omega) (by decide) ?_
          refine go_aload_n dX7_sight_52 rfl ?_
          refine go_getc dX7_sight_53 fX7_56 rfl (by decide) (by decide) (by decide) rfl ?_
          refine go_aload_n dX7_sight_56 rfl ?_
          refine go_geti dX7_sight_57 fX7_147 rfl (by decide) (by decide) (by decide) rfl ((e46 25).trans x3) ?_
          refine go_iload_n dX7_sight_60 rfl ?_
          refine go_iast dX7_sight_61 rfl (by decide) rfl (by omega) (by decide) ?_
          refine go_aload_n dX7_sight_62 rfl ?_
          refine go_getc dX7_sight_63 fX7_59 rfl (by decide) (by decide) (by decide) rfl ?_
          refine go_aload_n dX7_sight_66 rfl ?_
          refine go_geti dX7_sight_67 fX7_147 rfl (by decide) (by decide) (by decide) rfl ((e46 25).trans x3) ?_
          refine go_iload_n dX7_sight_70 rfl ?_
          refine go_zast dX7_sight_71 rfl (by decide) rfl (by omega) (by decide) (bI_z b) ?_
          refine go_aload_n dX7_sight_72 rfl ?_
          refine go_dup dX7_sight_73 rfl ?_
          refine go_geti dX7_sight_74 fX7_147 rfl (by decide) (by decide) (by decide) rfl ((e46 25).trans x3) ?_
          refine go_iconst (nI 1) dX7_sight_77 (by decide +kernel) ?_
          first | refine go_iadd_n dX7_sight_78 ?_ | refine go_iadd dX7_sight_78 rfl ?_
          refine go_puti dX7_sight_79 fX7_147 rfl (by decide) (by decide) (by decide) rfl (fun _ _ _ h => by cases h; rfl) (Or.inl rfl) ?_
          refine go_aload_n dX7_sight_82 rfl ?_
          refine go_geti dX7_sight_83 fX7_147 rfl (by decide) (by decide) (by decide) rfl (Eq.refl (nI (c + 1))) ?_
          exact go_iret dX7_sight_86 rfl rfl rfl
        · have nk : ∀ k, k ≠ 26 → k ≠ 27 → k ≠ 28 → k ≠ 46 → k ≠ 61 → k ≠ 62 → k ≠ 63 → ((gup (gup (gup (gup (gup (seM m h p c b) 46 0 (nI 0)) 61 c (nI h)) 62 c (nI p)) 63 c (bI b)) 46 25 (nI (c + 1)))).1 k = m.1 k := by
            intro k z1 z2 z3 z4 z5 z6 z7
            rw [gup_k _ _ z4, gup_k _ _ z7, gup_k _ _ z6, gup_k _ _ z5, gup_k _ _ z4, seM, gup_k _ _ z1]
            cases b with
            | false => exact gup_k _ _ z3
            | true => exact gup_k _ _ z2
          have n : ∀ k, (decide (k ≠ 26 ∧ k ≠ 27 ∧ k ≠ 28 ∧ k ≠ 46 ∧ k ≠ 61 ∧ k ≠ 62 ∧ k ≠ 63) = true) → ((gup (gup (gup (gup (gup (seM m h p c b) 46 0 (nI 0)) 61 c (nI h)) 62 c (nI p)) 63 c (bI b)) 46 25 (nI (c + 1)))).1 k = m.1 k := fun k hk => by
            obtain ⟨z1, z2, z3, z4, z5, z6, z7⟩ := of_decide_eq_true hk
            exact nk k z1 z2 z3 z4 z5 z6 z7
          have nf : ∀ i, i ≠ 0 → i ≠ 25 → ((gup (gup (gup (gup (gup (seM m h p c b) 46 0 (nI 0)) 61 c (nI h)) 62 c (nI p)) 63 c (bI b)) 46 25 (nI (c + 1)))).1 46 i = m.1 46 i := by
            intro i z1 z2
            rw [gup_i _ _ z2, gup_k _ _ (by decide), gup_k _ _ (by decide), gup_k _ _ (by decide), gup_i _ _ z1, seM, gup_k _ _ (by decide)]
            cases b <;> rfl
          have e2 : ((gup (gup (gup (gup (gup (seM m h p c b) 46 0 (nI 0)) 61 c (nI h)) 62 c (nI p)) 63 c (bI b)) 46 25 (nI (c + 1)))).2 = m.2 := rfl
          obtain ⟨g1, g3⟩ := h3.all (m' := (gup (gup (gup (gup (gup (seM m h p c b) 46 0 (nI 0)) 61 c (nI h)) 62 c (nI p)) 63 c (bI b)) 46 25 (nI (c + 1)))) h1 e2 (fun k z1 z2 => nk k (by omega) (by omega) (by omega) (by omega) (by omega) (by omega) (by omega)) (n 48 rfl) (n 49 rfl) (n 50 rfl) (n 51 rfl)
          refine ⟨P, N, lw, hr, a, c + 1, L, lim, g1, h2.kept (nf 4 (by decide) (by decide)) (nf 5 (by decide) (by decide)) (nf 6 (by decide) (by decide)) (n 48 rfl) (n 49 rfl) (n 51 rfl), g3, h4.kept (congrFun (n 3 rfl) 4) (n 4 rfl) (n 5 rfl) (n 6 rfl) (n 7 rfl) (nf 11 (by decide) (by decide)) (n 52 rfl), h5.kept (congrFun (n 24 rfl) 1) (n 25 rfl) (nf 21 (by decide) (by decide)) (n 48 rfl) (n 52 rfl) (n 57 rfl), h6.kept (n 14 rfl) (n 15 rfl) (n 16 rfl) (n 17 rfl) (n 18 rfl) (n 19 rfl) (n 20 rfl) (n 21 rfl) (n 22 rfl) (n 23 rfl) (n 58 rfl) (n 59 rfl), ?_, h8.kept (congrFun (n 1 rfl) 1) (n 2 rfl) (nf 2 (by decide) (by decide)) (n 47 rfl)⟩
          have m61 : ∀ i, ((gup (gup (gup (gup (gup (seM m h p c b) 46 0 (nI 0)) 61 c (nI h)) 62 c (nI p)) 63 c (bI b)) 46 25 (nI (c + 1)))).1 61 i = if i = c then nI h else m.1 61 i := by
            intro i
            rw [gup_k _ _ (by decide), gup_k _ _ (by decide), gup_k _ _ (by decide), gup_if, gup_k _ _ (by decide), seM, gup_k _ _ (by decide)]
            cases b <;> rfl
          have m62 : ∀ i, ((gup (gup (gup (gup (gup (seM m h p c b) 46 0 (nI 0)) 61 c (nI h)) 62 c (nI p)) 63 c (bI b)) 46 25 (nI (c + 1)))).1 62 i = if i = c then nI p else m.1 62 i := by
            intro i
            rw [gup_k _ _ (by decide), gup_k _ _ (by decide), gup_if, gup_k _ _ (by decide), gup_k _ _ (by decide), seM, gup_k _ _ (by decide)]
            cases b <;> rfl
          have m63 : ∀ i, ((gup (gup (gup (gup (gup (seM m h p c b) 46 0 (nI 0)) 61 c (nI h)) 62 c (nI p)) 63 c (bI b)) 46 25 (nI (c + 1)))).1 63 i = if i = c then bI b else m.1 63 i := by
            intro i
            rw [gup_k _ _ (by decide), gup_if, gup_k _ _ (by decide), gup_k _ _ (by decide), gup_k _ _ (by decide), seM, gup_k _ _ (by decide)]
            cases b <;> rfl
          have sn : ∀ h' b', snA (gup (gup (gup (gup (gup (seM m h p c b) 46 0 (nI 0)) 61 c (nI h)) 62 c (nI p)) 63 c (bI b)) 46 25 (nI (c + 1))) h' b' (c + 1) = snA m h' b' c ||| (if h = h' ∧ b = b' ∧ h' < 6 then 2 ^ p else 0) ∨ ¬ h' < 6 := by
            intro h' b'
            by_cases hz : h' < 6
            · left
              rw [snA, m61, m62, m63, if_pos rfl, if_pos rfl, if_pos rfl, nI_clamp (by omega)]
              have sl : snA (gup (gup (gup (gup (gup (seM m h p c b) 46 0 (nI 0)) 61 c (nI h)) 62 c (nI p)) 63 c (bI b)) 46 25 (nI (c + 1))) h' b' c = snA m h' b' c := snA_lt h' b' c (fun i hi => ⟨by rw [m61, if_neg (by omega)], by rw [m62, if_neg (by omega)], by rw [m63, if_neg (by omega)]⟩)
              rw [sl]
              congr 1
              by_cases hq : h = h' ∧ b = b'
              · rw [if_pos (show nI h = nI h' ∧ bI b = bI b' from ⟨by rw [hq.1], by rw [hq.2]⟩), if_pos (show h = h' ∧ b = b' ∧ h' < 6 from ⟨hq.1, hq.2, hz⟩)]
              · rw [if_neg (show ¬ (nI h = nI h' ∧ bI b = bI b') from fun w => hq ⟨(nI_eq (by omega) (by omega)).mp w.1, bI_inj.mp w.2⟩), if_neg (show ¬ (h = h' ∧ b = b' ∧ h' < 6) from fun w => hq ⟨w.1, w.2.1⟩)]
            · exact Or.inr hz
          refine ⟨by omega, rfl, rfl, fun i hi => ?_, fun h' hh' => ⟨?_, ?_⟩⟩
          · rw [m61, m62, m63]
            by_cases hi2 : i = c
            · rw [if_pos hi2, if_pos hi2, if_pos hi2]
              exact ⟨⟨h, hh, rfl⟩, ⟨p, by omega, rfl⟩, b, rfl⟩
            · rw [if_neg hi2, if_neg hi2, if_neg hi2]
              exact x4 i (by omega)
          · rcases sn h' true with e | e
            · rw [e]
              cases b with
              | false =>
                rw [if_neg (fun w => absurd w.2.1 (by decide)), Nat.or_zero]
                exact (x5 h' hh').1
              | true =>
                show (gup m 27 h (m.1 27 h ||| nI (2 ^ p))).1 27 h' = _
                rw [gup_if, (x5 h hh).1, (x5 h' hh').1]
                by_cases hq : h' = h
                · subst hq
                  rw [if_pos rfl, if_pos ⟨rfl, rfl, hh⟩, nb_or]
                · rw [if_neg hq, if_neg (fun w => hq w.1.symm), Nat.or_zero]
            · exact absurd hh' e
          · rcases sn h' false with e | e
            · rw [e]
              cases b with
              | true =>
                rw [if_neg (fun w => absurd w.2.1 (by decide)), Nat.or_zero]
                exact (x5 h' hh').2
              | false =>
                show (gup m 28 h (m.1 28 h ||| nI (2 ^ p))).1 28 h' = _
                rw [gup_if, (x5 h hh).2, (x5 h' hh').2]
                by_cases hq : h' = h
                · subst hq
                  rw [if_pos rfl, if_pos ⟨rfl, rfl, hh⟩, nb_or]
                · rw [if_neg hq, if_neg (fun w => hq w.1.symm), Nat.or_zero]
            · exact absurd hh' e
      · obtain rfl : c = 8 := by omega
        refine ⟨(-4), m, gup m 46 0 (nI 0), ?_, ?_, hthr⟩
        · show Go O (d + 4) kX6_sight _ _ 0 [.ref 0, .int (nI h), .int (nI p), .int (bI b)] [] m
          refine go_aload_n dX6_sight_0 rfl ?_
          refine go_iload_n dX6_sight_1 rfl ?_
          refine go_callV1 (K' := kX6_isPerson) [_] dX6_sight_2 mX6_105 lX6_isPerson rfl (by decide) rfl (by decide) rfl rfl (Nat.le_of_ble_eq_true rfl) (Nat.le_of_ble_eq_true rfl) (c_isPerson_29 hT t5 hP6) ?_
          refine go_if_ne 10 dX6_sight_5 (by decide) (fun h5 => ?_) (fun h => absurd h (bI_n0.mpr hip))
          refine go_iload_n dX6_sight_10 rfl ?_
          refine go_callS1 (K' := kX6_isHour) [_] dX6_sight_11 mX6_109 lX6_isHour rfl rfl (Nat.le_of_ble_eq_true rfl) (Nat.le_of_ble_eq_true rfl) (c_isHour) ?_
          refine go_if_ne 20 dX6_sight_14 (by decide) (fun h14 => ?_) (fun h => absurd h (bI_n0.mpr hih))
          refine go_aload_n dX6_sight_20 rfl ?_
          refine go_getc dX6_sight_21 fX6_40 rfl (by decide) (by decide) (by decide) rfl ?_
          refine go_geti dX6_sight_24 fX6_104 rfl (by decide) (by decide) (by decide) rfl x2 ?_
          refine go_bipush (nI 8) dX6_sight_27 (by decide +kernel) ?_
          refine go_icmp_lt 35 dX6_sight_29 (by decide) (fun h => absurd h (by decide +kernel)) (fun h29 => ?_)
          refine go_bipush (-4) dX6_sight_32 (by decide +kernel) ?_
          exact go_iret dX6_sight_34 rfl rfl rfl
        · show Go O (d + 4) kX7_sight _ _ 0 [.ref 46, .int (nI h), .int (nI p), .int (bI b)] [] m
          refine go_aload_n dX7_sight_0 rfl ?_
          refine go_iconst (nI 0) dX7_sight_1 (by decide +kernel) ?_
          refine go_puti dX7_sight_2 fX7_77 rfl (by decide) (by decide) (by decide) rfl (fun _ _ _ h => by cases h; rfl) (Or.inl rfl) ?_
          refine go_aload_n dX7_sight_5 rfl ?_
          refine go_iload_n dX7_sight_6 rfl ?_
          refine go_callV1 (K' := kX7_noOne) [_] dX7_sight_7 mX7_150 lX7_noOne rfl (by decide) rfl (by decide) rfl rfl (Nat.le_of_ble_eq_true rfl) (Nat.le_of_ble_eq_true rfl) (c_noOne hP hP6) ?_
          refine go_if_eq 15 dX7_sight_10 (by decide) (fun h10 => ?_) (fun h => absurd (bI_0.mpr (by rw [hip]; rfl)) h)
          refine go_iload_n dX7_sight_15 rfl ?_
          refine go_i2l dX7_sight_16 rfl ?_
          refine go_lconst 0 dX7_sight_17 (by decide +kernel) ?_
          refine go_ldc2 kcX7_153 dX7_sight_18 ?_
          refine go_callS1 (K' := kX7_in) [_, _, _] dX7_sight_21 mX7_84 lX7_in rfl rfl (Nat.le_of_ble_eq_true rfl) (Nat.le_of_ble_eq_true rfl) (c_in5) ?_
          refine go_if_ne 30 dX7_sight_24 (by decide) (fun h24 => ?_) (fun h => absurd h (bI_n0.mpr hih))
          refine go_aload_n dX7_sight_30 rfl ?_
          refine go_geti dX7_sight_31 fX7_147 rfl (by decide) (by decide) (by decide) rfl x3 ?_
          refine go_bipush (nI 8) dX7_sight_34 (by decide +kernel) ?_
          refine go_icmp_ne 42 dX7_sight_36 (by decide) (fun h => absurd h (fun q => q rfl)) (fun h36 => ?_)
          refine go_bipush (-4) dX7_sight_39 (by decide +kernel) ?_
          exact go_iret dX7_sight_41 rfl rfl rfl
theorem op_sight_35 {O : gOm} {d : Nat} {m : gMem} {h p : Int32} {b : Bool} (h0 : Inv m) (hT : m.2 0 = 35) : OpOk O (d + 4) kX6_sight kX7_sight [.int h, .int p, .int (bI b)] m := by
  have hthr := h0.thr
  obtain ⟨P, N, lw, hr, a, c, L, lim, h1, h2, h3, h4, h5, h6, h7, h8⟩ := h0
  have hP := h2.1
  have hP6 := h2.2.1
  obtain ⟨t5, t6, t7, tp, tg, tn⟩ : IvT m 35 P N lw := hT ▸ h3
  obtain ⟨x1, x2, x3, x4, x5⟩ := h7
  cases hip : iR p P with
  | false =>
    refine ⟨(-1), m, gup m 46 0 (nI 0), ?_, ?_, hthr⟩
    · show Go O (d + 4) kX6_sight _ _ 0 [.ref 0, .int h, .int p, .int (bI b)] [] m
      refine go_aload_n dX6_sight_0 rfl ?_
      refine go_iload_n dX6_sight_1 rfl ?_
      refine go_callV1 (K' := kX6_isPerson) [_] dX6_sight_2 mX6_105 lX6_isPerson rfl (by decide) rfl (by decide) rfl rfl (Nat.le_of_ble_eq_true rfl) (Nat.le_of_ble_eq_true rfl) (c_isPerson_35 hT t5 hP6) ?_
      refine go_if_ne 10 dX6_sight_5 (by decide) (fun h => absurd h (fun q => q (bI_0.mpr hip))) (fun h5 => ?_)
      refine go_iconst (-1) dX6_sight_8 (by decide +kernel) ?_
      exact go_iret dX6_sight_9 rfl rfl rfl
    · show Go O (d + 4) kX7_sight _ _ 0 [.ref 46, .int h, .int p, .int (bI b)] [] m
      refine go_aload_n dX7_sight_0 rfl ?_
      refine go_iconst (nI 0) dX7_sight_1 (by decide +kernel) ?_
      refine go_puti dX7_sight_2 fX7_77 rfl (by decide) (by decide) (by decide) rfl (fun _ _ _ h => by cases h; rfl) (Or.inl rfl) ?_
      refine go_aload_n dX7_sight_5 rfl ?_
      refine go_iload_n dX7_sight_6 rfl ?_
      refine go_callV1 (K' := kX7_noOne) [_] dX7_sight_7 mX7_150 lX7_noOne rfl (by decide) rfl (by decide) rfl rfl (Nat.le_of_ble_eq_true rfl) (Nat.le_of_ble_eq_true rfl) (c_noOne hP hP6) ?_
      refine go_if_eq 15 dX7_sight_10 (by decide) (fun h => absurd h (bI_n0.mpr (by rw [hip]; rfl))) (fun h10 => ?_)
      refine go_iconst (-1) dX7_sight_13 (by decide +kernel) ?_
      exact go_iret dX7_sight_14 rfl rfl rfl
  | true =>
    obtain ⟨p, hpP, rfl⟩ := iR_of hip
    cases hih : iR h 6 with
    | false =>
      refine ⟨(-2), m, gup m 46 0 (nI 0), ?_, ?_, hthr⟩
      · show Go O (d + 4) kX6_sight _ _ 0 [.ref 0, .int h, .int (nI p), .int (bI b)] [] m
        refine go_aload_n dX6_sight_0 rfl ?_
        refine go_iload_n dX6_sight_1 rfl ?_
        refine go_callV1 (K' := kX6_isPerson) [_] dX6_sight_2 mX6_105 lX6_isPerson rfl (by decide) rfl (by decide) rfl rfl (Nat.le_of_ble_eq_true rfl) (Nat.le_of_ble_eq_true rfl) (c_isPerson_35 hT t5 hP6) ?_
        refine go_if_ne 10 dX6_sight_5 (by decide) (fun h5 => ?_) (fun h => absurd h (bI_n0.mpr hip))
        refine go_iload_n dX6_sight_10 rfl ?_
        refine go_callS1 (K' := kX6_isHour) [_] dX6_sight_11 mX6_109 lX6_isHour rfl rfl (Nat.le_of_ble_eq_true rfl) (Nat.le_of_ble_eq_true rfl) (c_isHour) ?_
        refine go_if_ne 20 dX6_sight_14 (by decide) (fun h => absurd h (fun q => q (bI_0.mpr hih))) (fun h14 => ?_)
        refine go_bipush (-2) dX6_sight_17 (by decide +kernel) ?_
        exact go_iret dX6_sight_19 rfl rfl rfl
      · show Go O (d + 4) kX7_sight _ _ 0 [.ref 46, .int h, .int (nI p), .int (bI b)] [] m
        refine go_aload_n dX7_sight_0 rfl ?_
        refine go_iconst (nI 0) dX7_sight_1 (by decide +kernel) ?_
        refine go_puti dX7_sight_2 fX7_77 rfl (by decide) (by decide) (by decide) rfl (fun _ _ _ h => by cases h; rfl) (Or.inl rfl) ?_
        refine go_aload_n dX7_sight_5 rfl ?_
        refine go_iload_n dX7_sight_6 rfl ?_
        refine go_callV1 (K' := kX7_noOne) [_] dX7_sight_7 mX7_150 lX7_noOne rfl (by decide) rfl (by decide) rfl rfl (Nat.le_of_ble_eq_true rfl) (Nat.le_of_ble_eq_true rfl) (c_noOne hP hP6) ?_
        refine go_if_eq 15 dX7_sight_10 (by decide) (fun h10 => ?_) (fun h => absurd (bI_0.mpr (by rw [hip]; rfl)) h)
        refine go_iload_n dX7_sight_15 rfl ?_
        refine go_i2l dX7_sight_16 rfl ?_
        refine go_lconst 0 dX7_sight_17 (by decide +kernel) ?_
        refine go_ldc2 kcX7_153 dX7_sight_18 ?_
        refine go_callS1 (K' := kX7_in) [_, _, _] dX7_sight_21 mX7_84 lX7_in rfl rfl (Nat.le_of_ble_eq_true rfl) (Nat.le_of_ble_eq_true rfl) (c_in5) ?_
        refine go_if_ne 30 dX7_sight_24 (by decide) (fun h => absurd h (fun q => q (bI_0.mpr hih))) (fun h24 => ?_)
        refine go_bipush (-2) dX7_sight_27 (by decide +kernel) ?_
        exact go_iret dX7_sight_29 rfl rfl rfl
    | true =>
      obtain ⟨h, hh, rfl⟩ := iR_of hih
      rcases Nat.lt_or_ge c 8 with z | z
      · have e46 : ∀ i, ((seM m h p c b)).1 46 i = m.1 46 i := fun i => congrFun (seM_k (by decide) (by decide) (by decide)) i
        refine ⟨(nI (c + 1)), (seM m h p c b), (gup (gup (gup (gup (gup (seM m h p c b) 46 0 (nI 0)) 61 c (nI h)) 62 c (nI p)) 63 c (bI b)) 46 25 (nI (c + 1))), ?_, ?_, ?_⟩
        · show Go O (d + 4) kX6_sight _ _ 0 [.ref 0, .int (nI h), .int (nI p), .int (bI b)] [] m
          refine go_aload_n dX6_sight_0 rfl ?_
          refine go_iload_n dX6_sight_1 rfl ?_
          refine go_callV1 (K' := kX6_isPerson) [_] dX6_sight_2 mX6_105 lX6_isPerson rfl (by decide) rfl (by decide) rfl rfl (Nat.le_of_ble_eq_true rfl) (Nat.le_of_ble_eq_true rfl) (c_isPerson_35 hT t5 hP6) ?_
          refine go_if_ne 10 dX6_sight_5 (by decide) (fun h5 => ?_) (fun h => absurd h (bI_n0.mpr hip))
          refine go_iload_n dX6_sight_10 rfl ?_
          refine go_callS1 (K' := kX6_isHour) [_] dX6_sight_11 mX6_109 lX6_isHour rfl rfl (Nat.le_of_ble_eq_true rfl) (Nat.le_of_ble_eq_true rfl) (c_isHour) ?_
          refine go_if_ne 20 dX6_sight_14 (by decide) (fun h14 => ?_) (fun h => absurd h (bI_n0.mpr hih))
          refine go_aload_n dX6_sight_20 rfl ?_
          refine go_getc dX6_sight_21 fX6_40 rfl (by decide) (by decide) (by decide) rfl ?_
          refine go_geti dX6_sight_24 fX6_104 rfl (by decide) (by decide) (by decide) rfl x2 ?_
          refine go_bipush (nI 8) dX6_sight_27 (by decide +kernel) ?_
          refine go_icmp_lt 35 dX6_sight_29 (by decide) (fun h29 => ?_) (fun h => absurd (nI_lt z (by omega)) h)
          refine go_aload_n dX6_sight_35 rfl ?_
          refine go_getc dX6_sight_36 fX6_40 rfl (by decide) (by decide) (by decide) rfl ?_
          refine go_iload_n dX6_sight_39 rfl ?_
          refine go_iload_n dX6_sight_40 rfl ?_
          refine go_iload_n dX6_sight_41 rfl ?_
          refine go_callV0 (K' := kX4_see) [_, _, _] dX6_sight_42 mX6_237 lX4_see rfl (by decide) rfl (by decide) rfl rfl (Nat.le_of_ble_eq_true rfl) (Nat.le_of_ble_eq_true rfl) (c_see hh (by omega) x2) ?_
          refine go_aload_n dX6_sight_45 rfl ?_
          refine go_getc dX6_sight_46 fX6_40 rfl (by decide) (by decide) (by decide) rfl ?_
          refine go_geti dX6_sight_49 fX6_104 rfl (by decide) (by decide) (by decide) rfl (Eq.refl (nI (c + 1))) ?_
          exact go_iret dX6_sight_52 rfl rfl rfl
        · show Go O (d + 4) kX7_sight _ _ 0 [.ref 46, .int (nI h), .int (nI p), .int (bI b)] [] (seM m h p c b)
          refine go_aload_n dX7_sight_0 rfl ?_
          refine go_iconst (nI 0) dX7_sight_1 (by decide +kernel) ?_
          refine go_puti dX7_sight_2 fX7_77 rfl (by decide) (by decide) (by decide) rfl (fun _ _ _ h => by cases h; rfl) (Or.inl rfl) ?_
          refine go_aload_n dX7_sight_5 rfl ?_
          refine go_iload_n dX7_sight_6 rfl ?_
          refine go_callV1 (K' := kX7_noOne) [_] dX7_sight_7 mX7_150 lX7_noOne rfl (by decide) rfl (by decide) rfl rfl (Nat.le_of_ble_eq_true rfl) (Nat.le_of_ble_eq_true rfl) (c_noOne ((e46 4).trans hP) hP6) ?_
          refine go_if_eq 15 dX7_sight_10 (by decide) (fun h10 => ?_) (fun h => absurd (bI_0.mpr (by rw [hip]; rfl)) h)
          refine go_iload_n dX7_sight_15 rfl ?_
          refine go_i2l dX7_sight_16 rfl ?_
          refine go_lconst 0 dX7_sight_17 (by decide +kernel) ?_
          refine go_ldc2 kcX7_153 dX7_sight_18 ?_
          refine go_callS1 (K' := kX7_in) [_, _, _] dX7_sight_21 mX7_84 lX7_in rfl rfl (Nat.le_of_ble_eq_true rfl) (Nat.le_of_ble_eq_true rfl) (c_in5) ?_
          refine go_if_ne 30 dX7_sight_24 (by decide) (fun h24 => ?_) (fun h => absurd h (bI_n0.mpr hih))
          refine go_aload_n dX7_sight_30 rfl ?_
          refine go_geti dX7_sight_31 fX7_147 rfl (by decide) (by decide) (by decide) rfl ((e46 25).trans x3) ?_
          refine go_bipush (nI 8) dX7_sight_34 (by decide +kernel) ?_
          refine go_icmp_ne 42 dX7_sight_36 (by decide) (fun h36 => ?_) (fun h => absurd h (fun q => absurd ((nI_eq (by omega) (by omega)).mp q) (by omega)))
          refine go_aload_n dX7_sight_42 rfl ?_
          refine go_getc dX7_sight_43 fX7_53 rfl (by decide) (by decide) (by decide) rfl ?_
          refine go_aload_n dX7_sight_46 rfl ?_
          refine go_geti dX7_sight_47 fX7_147 rfl (by decide) (by decide) (by decide) rfl ((e46 25).trans x3) ?_
          refine go_iload_n dX7_sight_50 rfl ?_
          refine go_iast dX7_sight_51 rfl (by decide) rfl (by omega) (by decide) ?_
          refine go_aload_n dX7_sight_52 rfl ?_
          refine go_getc dX7_sight_53 fX7_56 rfl (by decide) (by decide) (by decide) rfl ?_
          refine go_aload_n dX7_sight_56 rfl ?_
          refine go_geti dX7_sight_57 fX7_147 rfl (by decide) (by decide) (by decide) rfl ((e46 25).trans x3) ?_
          refine go_iload_n dX7_sight_60 rfl ?_
          refine go_iast dX7_sight_61 rfl (by decide) rfl (by omega) (by decide) ?_
          refine go_aload_n dX7_sight_62 rfl ?_
          refine go_getc dX7_sight_63 fX7_59 rfl (by decide) (by decide) (by decide) rfl ?_
          refine go_aload_n dX7_sight_66 rfl ?_
          refine go_geti dX7_sight_67 fX7_147 rfl (by decide) (by decide) (by decide) rfl ((e46 25).trans x3) ?_
          refine go_iload_n dX7_sight_70 rfl ?_
          refine go_zast dX7_sight_71 rfl (by decide) rfl (by omega) (by decide) (bI_z b) ?_
          refine go_aload_n dX7_sight_72 rfl ?_
          refine go_dup dX7_sight_73 rfl ?_
          refine go_geti dX7_sight_74 fX7_147 rfl (by decide) (by decide) (by decide) rfl ((e46 25).trans x3) ?_
          refine go_iconst (nI 1) dX7_sight_77 (by decide +kernel) ?_
          first | refine go_iadd_n dX7_sight_78 ?_ | refine go_iadd dX7_sight_78 rfl ?_
          refine go_puti dX7_sight_79 fX7_147 rfl (by decide) (by decide) (by decide) rfl (fun _ _ _ h => by cases h; rfl) (Or.inl rfl) ?_
          refine go_aload_n dX7_sight_82 rfl ?_
          refine go_geti dX7_sight_83 fX7_147 rfl (by decide) (by decide) (by decide) rfl (Eq.refl (nI (c + 1))) ?_
          exact go_iret dX7_sight_86 rfl rfl rfl
        · have nk : ∀ k, k ≠ 26 → k ≠ 27 → k ≠ 28 → k ≠ 46 → k ≠ 61 → k ≠ 62 → k ≠ 63 → ((gup (gup (gup (gup (gup (seM m h p c b) 46 0 (nI 0)) 61 c (nI h)) 62 c (nI p)) 63 c (bI b)) 46 25 (nI (c + 1)))).1 k = m.1 k := by
            intro k z1 z2 z3 z4 z5 z6 z7
            rw [gup_k _ _ z4, gup_k _ _ z7, gup_k _ _ z6, gup_k _ _ z5, gup_k _ _ z4, seM, gup_k _ _ z1]
            cases b with
            | false => exact gup_k _ _ z3
            | true => exact gup_k _ _ z2
          have n : ∀ k, (decide (k ≠ 26 ∧ k ≠ 27 ∧ k ≠ 28 ∧ k ≠ 46 ∧ k ≠ 61 ∧ k ≠ 62 ∧ k ≠ 63) = true) → ((gup (gup (gup (gup (gup (seM m h p c b) 46 0 (nI 0)) 61 c (nI h)) 62 c (nI p)) 63 c (bI b)) 46 25 (nI (c + 1)))).1 k = m.1 k := fun k hk => by
            obtain ⟨z1, z2, z3, z4, z5, z6, z7⟩ := of_decide_eq_true hk
            exact nk k z1 z2 z3 z4 z5 z6 z7
          have nf : ∀ i, i ≠ 0 → i ≠ 25 → ((gup (gup (gup (gup (gup (seM m h p c b) 46 0 (nI 0)) 61 c (nI h)) 62 c (nI p)) 63 c (bI b)) 46 25 (nI (c + 1)))).1 46 i = m.1 46 i := by
            intro i z1 z2
            rw [gup_i _ _ z2, gup_k _ _ (by decide), gup_k _ _ (by decide), gup_k _ _ (by decide), gup_i _ _ z1, seM, gup_k _ _ (by decide)]
            cases b <;> rfl
          have e2 : ((gup (gup (gup (gup (gup (seM m h p c b) 46 0 (nI 0)) 61 c (nI h)) 62 c (nI p)) 63 c (bI b)) 46 25 (nI (c + 1)))).2 = m.2 := rfl
          obtain ⟨g1, g3⟩ := h3.all (m' := (gup (gup (gup (gup (gup (seM m h p c b) 46 0 (nI 0)) 61 c (nI h)) 62 c (nI p)) 63 c (bI b)) 46 25 (nI (c + 1)))) h1 e2 (fun k z1 z2 => nk k (by omega) (by omega) (by omega) (by omega) (by omega) (by omega) (by omega)) (n 48 rfl) (n 49 rfl) (n 50 rfl) (n 51 rfl)
          refine ⟨P, N, lw, hr, a, c + 1, L, lim, g1, h2.kept (nf 4 (by decide) (by decide)) (nf 5 (by decide) (by decide)) (nf 6 (by decide) (by decide)) (n 48 rfl) (n 49 rfl) (n 51 rfl), g3, h4.kept (congrFun (n 3 rfl) 4) (n 4 rfl) (n 5 rfl) (n 6 rfl) (n 7 rfl) (nf 11 (by decide) (by decide)) (n 52 rfl), h5.kept (congrFun (n 24 rfl) 1) (n 25 rfl) (nf 21 (by decide) (by decide)) (n 48 rfl) (n 52 rfl) (n 57 rfl), h6.kept (n 14 rfl) (n 15 rfl) (n 16 rfl) (n 17 rfl) (n 18 rfl) (n 19 rfl) (n 20 rfl) (n 21 rfl) (n 22 rfl) (n 23 rfl) (n 58 rfl) (n 59 rfl), ?_, h8.kept (congrFun (n 1 rfl) 1) (n 2 rfl) (nf 2 (by decide) (by decide)) (n 47 rfl)⟩
          have m61 : ∀ i, ((gup (gup (gup (gup (gup (seM m h p c b) 46 0 (nI 0)) 61 c (nI h)) 62 c (nI p)) 63 c (bI b)) 46 25 (nI (c + 1)))).1 61 i = if i = c then nI h else m.1 61 i := by
            intro i
            rw [gup_k _ _ (by decide), gup_k _ _ (by decide), gup_k _ _ (by decide), gup_if, gup_k _ _ (by decide), seM, gup_k _ _ (by decide)]
            cases b <;> rfl
          have m62 : ∀ i, ((gup (gup (gup (gup (gup (seM m h p c b) 46 0 (nI 0)) 61 c (nI h)) 62 c (nI p)) 63 c (bI b)) 46 25 (nI (c + 1)))).1 62 i = if i = c then nI p else m.1 62 i := by
            intro i
            rw [gup_k _ _ (by decide), gup_k _ _ (by decide), gup_if, gup_k _ _ (by decide), gup_k _ _ (by decide), seM, gup_k _ _ (by decide)]
            cases b <;> rfl
          have m63 : ∀ i, ((gup (gup (gup (gup (gup (seM m h p c b) 46 0 (nI 0)) 61 c (nI h)) 62 c (nI p)) 63 c (bI b)) 46 25 (nI (c + 1)))).1 63 i = if i = c then bI b else m.1 63 i := by
            intro i
            rw [gup_k _ _ (by decide), gup_if, gup_k _ _ (by decide), gup_k _ _ (by decide), gup_k _ _ (by decide), seM, gup_k _ _ (by decide)]
            cases b <;> rfl
          have sn : ∀ h' b', snA (gup (gup (gup (gup (gup (seM m h p c b) 46 0 (nI 0)) 61 c (nI h)) 62 c (nI p)) 63 c (bI b)) 46 25 (nI (c + 1))) h' b' (c + 1) = snA m h' b' c ||| (if h = h' ∧ b = b' ∧ h' < 6 then 2 ^ p else 0) ∨ ¬ h' < 6 := by
            intro h' b'
            by_cases hz : h' < 6
            · left
              rw [snA, m61, m62, m63, if_pos rfl, if_pos rfl, if_pos rfl, nI_clamp (by omega)]
              have sl : snA (gup (gup (gup (gup (gup (seM m h p c b) 46 0 (nI 0)) 61 c (nI h)) 62 c (nI p)) 63 c (bI b)) 46 25 (nI (c + 1))) h' b' c = snA m h' b' c := snA_lt h' b' c (fun i hi => ⟨by rw [m61, if_neg (by omega)], by rw [m62, if_neg (by omega)], by rw [m63, if_neg (by omega)]⟩)
              rw [sl]
              congr 1
              by_cases hq : h = h' ∧ b = b'
              · rw [if_pos (show nI h = nI h' ∧ bI b = bI b' from ⟨by rw [hq.1], by rw [hq.2]⟩), if_pos (show h = h' ∧ b = b' ∧ h' < 6 from ⟨hq.1, hq.2, hz⟩)]
              · rw [if_neg (show ¬ (nI h = nI h' ∧ bI b = bI b') from fun w => hq ⟨(nI_eq (by omega) (by omega)).mp w.1, bI_inj.mp w.2⟩), if_neg (show ¬ (h = h' ∧ b = b' ∧ h' < 6) from fun w => hq ⟨w.1, w.2.1⟩)]
            · exact Or.inr hz
          refine ⟨by omega, rfl, rfl, fun i hi => ?_, fun h' hh' => ⟨?_, ?_⟩⟩
          · rw [m61, m62, m63]
            by_cases hi2 : i = c
            · rw [if_pos hi2, if_pos hi2, if_pos hi2]
              exact ⟨⟨h, hh, rfl⟩, ⟨p, by omega, rfl⟩, b, rfl⟩
            · rw [if_neg hi2, if_neg hi2, if_neg hi2]
              exact x4 i (by omega)
          · rcases sn h' true with e | e
            · rw [e]
              cases b with
              | false =>
                rw [if_neg (fun w => absurd w.2.1 (by decide)), Nat.or_zero]
                exact (x5 h' hh').1
              | true =>
                show (gup m 27 h (m.1 27 h ||| nI (2 ^ p))).1 27 h' = _
                rw [gup_if, (x5 h hh).1, (x5 h' hh').1]
                by_cases hq : h' = h
                · subst hq
                  rw [if_pos rfl, if_pos ⟨rfl, rfl, hh⟩, nb_or]
                · rw [if_neg hq, if_neg (fun w => hq w.1.symm), Nat.or_zero]
            · exact absurd hh' e
          · rcases sn h' false with e | e
            · rw [e]
              cases b with
              | true =>
                rw [if_neg (fun w => absurd w.2.1 (by decide)), Nat.or_zero]
                exact (x5 h' hh').2
              | false =>
                show (gup m 28 h (m.1 28 h ||| nI (2 ^ p))).1 28 h' = _
                rw [gup_if, (x5 h hh).2, (x5 h' hh').2]
                by_cases hq : h' = h
                · subst hq
                  rw [if_pos rfl, if_pos ⟨rfl, rfl, hh⟩, nb_or]
                · rw [if_neg hq, if_neg (fun w => hq w.1.symm), Nat.or_zero]
            · exact absurd hh' e
      · obtain rfl : c = 8 := by omega
        refine ⟨(-4), m, gup m 46 0 (nI 0), ?_, ?_, hthr⟩
        · show Go O (d + 4) kX6_sight _ _ 0 [.ref 0, .int (nI h), .int (nI p), .int (bI b)] [] m
          refine go_aload_n dX6_sight_0 rfl ?_
          refine go_iload_n dX6_sight_1 rfl ?_
          refine go_callV1 (K' := kX6_isPerson) [_] dX6_sight_2 mX6_105 lX6_isPerson rfl (by decide) rfl (by decide) rfl rfl (Nat.le_of_ble_eq_true rfl) (Nat.le_of_ble_eq_true rfl) (c_isPerson_35 hT t5 hP6) ?_
          refine go_if_ne 10 dX6_sight_5 (by decide) (fun h5 => ?_) (fun h => absurd h (bI_n0.mpr hip))
          refine go_iload_n dX6_sight_10 rfl ?_
          refine go_callS1 (K' := kX6_isHour) [_] dX6_sight_11 mX6_109 lX6_isHour rfl rfl (Nat.le_of_ble_eq_true rfl) (Nat.le_of_ble_eq_true rfl) (c_isHour) ?_
          refine go_if_ne 20 dX6_sight_14 (by decide) (fun h14 => ?_) (fun h => absurd h (bI_n0.mpr hih))
          refine go_aload_n dX6_sight_20 rfl ?_
          refine go_getc dX6_sight_21 fX6_40 rfl (by decide) (by decide) (by decide) rfl ?_
          refine go_geti dX6_sight_24 fX6_104 rfl (by decide) (by decide) (by decide) rfl x2 ?_
          refine go_bipush (nI 8) dX6_sight_27 (by decide +kernel) ?_
          refine go_icmp_lt 35 dX6_sight_29 (by decide) (fun h => absurd h (by decide +kernel)) (fun h29 => ?_)
          refine go_bipush (-4) dX6_sight_32 (by decide +kernel) ?_
          exact go_iret dX6_sight_34 rfl rfl rfl
        · show Go O (d + 4) kX7_sight _ _ 0 [.ref 46, .int (nI h), .int (nI p), .int (bI b)] [] m
          refine go_aload_n dX7_sight_0 rfl ?_
          refine go_iconst (nI 0) dX7_sight_1 (by decide +kernel) ?_
          refine go_puti dX7_sight_2 fX7_77 rfl (by decide) (by decide) (by decide) rfl (fun _ _ _ h => by cases h; rfl) (Or.inl rfl) ?_
          refine go_aload_n dX7_sight_5 rfl ?_
          refine go_iload_n dX7_sight_6 rfl ?_
          refine go_callV1 (K' := kX7_noOne) [_] dX7_sight_7 mX7_150 lX7_noOne rfl (by decide) rfl (by decide) rfl rfl (Nat.le_of_ble_eq_true rfl) (Nat.le_of_ble_eq_true rfl) (c_noOne hP hP6) ?_
          refine go_if_eq 15 dX7_sight_10 (by decide) (fun h10 => ?_) (fun h => absurd (bI_0.mpr (by rw [hip]; rfl)) h)
          refine go_iload_n dX7_sight_15 rfl ?_
          refine go_i2l dX7_sight_16 rfl ?_
          refine go_lconst 0 dX7_sight_17 (by decide +kernel) ?_
          refine go_ldc2 kcX7_153 dX7_sight_18 ?_
          refine go_callS1 (K' := kX7_in) [_, _, _] dX7_sight_21 mX7_84 lX7_in rfl rfl (Nat.le_of_ble_eq_true rfl) (Nat.le_of_ble_eq_true rfl) (c_in5) ?_
          refine go_if_ne 30 dX7_sight_24 (by decide) (fun h24 => ?_) (fun h => absurd h (bI_n0.mpr hih))
          refine go_aload_n dX7_sight_30 rfl ?_
          refine go_geti dX7_sight_31 fX7_147 rfl (by decide) (by decide) (by decide) rfl x3 ?_
          refine go_bipush (nI 8) dX7_sight_34 (by decide +kernel) ?_
          refine go_icmp_ne 42 dX7_sight_36 (by decide) (fun h => absurd h (fun q => q rfl)) (fun h36 => ?_)
          refine go_bipush (-4) dX7_sight_39 (by decide +kernel) ?_
          exact go_iret dX7_sight_41 rfl rfl rfl
theorem op_sight {O : gOm} {d : Nat} {m : gMem} {h p : Int32} {b : Bool} (h0 : Inv m) : OpOk O (d + 4) kX6_sight kX7_sight [.int h, .int p, .int (bI b)] m := by
  have hh := h0
  obtain ⟨P, N, lw, hr, a, c, L, lim, h1, h2, h3, h4, h5, h6, h7, h8⟩ := hh
  rcases h1 with ⟨e, -⟩ | ⟨e, -⟩
  · exact op_sight_29 h0 e
  · exact op_sight_35 h0 e
