theorem pc_or : ∀ k, k < 64 → ∀ g, g < 64 → pc6 (k ||| g) = pc6 k + pc6 (g &&& (k ^^^ 63)) := by decide +kernel
/-- a page taken -/
theorem cpP_pg (f w : Nat → Int32) : PgE (cpP f w 0 58) w := by
  intro j hj
  rw [cpP_at, if_pos (by omega), Nat.sub_zero]
/-- the rest of what holds, where the acts, now and the hour alone have changed -/
theorem Inv.mk5 {m m2 : gMem} {P N lw c L hr' a' : Nat} {lim : Nat → Nat} (h1 : IvTD m) (h2 : IvD m P N lw lim) (h3 : IvT m (m.2 0) P N lw) (h6 : IvK m N lim) (h7 : IvS m c) (h8 : IvX m L) (e2 : m2.2 = m.2) (nk : ∀ k, k ≠ 3 → k ≠ 4 → k ≠ 5 → k ≠ 6 → k ≠ 7 → k ≠ 24 → k ≠ 25 → k ≠ 46 → k ≠ 52 → k ≠ 57 → m2.1 k = m.1 k) (nf : ∀ i, i ≠ 0 → i ≠ 11 → i ≠ 21 → m2.1 46 i = m.1 46 i) (hP : IvP m2 N lim hr') (hA : IvA m2 P N lim hr' a') : Inv m2 := by
  have n : ∀ k, (decide (k ≠ 3 ∧ k ≠ 4 ∧ k ≠ 5 ∧ k ≠ 6 ∧ k ≠ 7 ∧ k ≠ 24 ∧ k ≠ 25 ∧ k ≠ 46 ∧ k ≠ 52 ∧ k ≠ 57) = true) → m2.1 k = m.1 k := fun k hk => by
    obtain ⟨z1, z2, z3, z4, z5, z6, z7, z8, z9, z10⟩ := of_decide_eq_true hk
    exact nk k z1 z2 z3 z4 z5 z6 z7 z8 z9 z10
  obtain ⟨g1, g3⟩ := h3.all (m' := m2) h1 e2 (fun k z1 z2 => nk k (by omega) (by omega) (by omega) (by omega) (by omega) (by omega) (by omega) (by omega) (by omega) (by omega)) (n 48 rfl) (n 49 rfl) (n 50 rfl) (n 51 rfl)
  exact ⟨P, N, lw, hr', a', c, L, lim, g1, h2.kept (nf 4 (by decide) (by decide) (by decide)) (nf 5 (by decide) (by decide) (by decide)) (nf 6 (by decide) (by decide) (by decide)) (n 48 rfl) (n 49 rfl) (n 51 rfl), g3, hP, hA, h6.kept (n 14 rfl) (n 15 rfl) (n 16 rfl) (n 17 rfl) (n 18 rfl) (n 19 rfl) (n 20 rfl) (n 21 rfl) (n 22 rfl) (n 23 rfl) (n 58 rfl) (n 59 rfl), h7.kept (congrFun (n 26 rfl) 2) (n 27 rfl) (n 28 rfl) (nf 25 (by decide) (by decide) (by decide)) (n 61 rfl) (n 62 rfl) (n 63 rfl), h8.kept (congrFun (n 1 rfl) 1) (n 2 rfl) (nf 2 (by decide) (by decide) (by decide)) (n 47 rfl)⟩
theorem op_undo_29 {O : gOm} {d : Nat} {m : gMem} (h0 : Inv m) (hT : m.2 0 = 29) : OpOk O (d + 4) kX6_undo kX7_undo [] m := by
  have hthr := h0.thr
  obtain ⟨P, N, lw, hr, a, c, L, lim, h1, h2, h3, h4, h5, h6, h7, h8⟩ := h0
  have hP6 := h2.2.1
  have hN3 := h2.2.2.2.1
  have s4 := h4.1.1
  have ok1 := h4.2.2.1
  have a24 := h5.2.1
  have a21 := h5.2.2.1
  have ha16 := h5.1
  match a, a24, a21, ha16, h5 with
  | 0, a24, a21, _, _ =>
    refine ⟨(-3), m, gup m 46 0 (nI 0), ?_, ?_, hthr⟩
    · show Go O (d + 4) kX6_undo _ _ 0 [.ref 0, .null] [] m
      refine go_aload_n dX6_undo_0 rfl ?_
      refine go_getc dX6_undo_1 fX6_33 rfl (by decide) (by decide) (by decide) rfl ?_
      refine go_geti dX6_undo_4 fX6_78 rfl (by decide) (by decide) (by decide) rfl a24 ?_
      refine go_if_ne 13 dX6_undo_7 (by decide) (fun h => absurd h (fun q => q rfl)) (fun h7 => ?_)
      refine go_bipush (-3) dX6_undo_10 (by decide +kernel) ?_
      exact go_iret dX6_undo_12 rfl rfl rfl
    · show Go O (d + 4) kX7_undo _ _ 0 [.ref 46] [] m
      refine go_aload_n dX7_undo_0 rfl ?_
      refine go_iconst (nI 0) dX7_undo_1 (by decide +kernel) ?_
      refine go_puti dX7_undo_2 fX7_77 rfl (by decide) (by decide) (by decide) rfl (fun _ _ _ h => by cases h; rfl) (Or.inl rfl) ?_
      refine go_aload_n dX7_undo_5 rfl ?_
      refine go_geti dX7_undo_6 fX7_140 rfl (by decide) (by decide) (by decide) rfl a21 ?_
      refine go_if_ne 15 dX7_undo_9 (by decide) (fun h => absurd h (fun q => q rfl)) (fun h9 => ?_)
      refine go_bipush (-3) dX7_undo_12 (by decide +kernel) ?_
      exact go_iret dX7_undo_14 rfl rfl rfl
  | i + 1, a24, a21, ha16, h5 =>
    obtain ⟨f, h0, r1, r2, r3, r4, r5⟩ := h5.pop hP6 hN3
    rcases r4 with ⟨eact, rfl, ef⟩ | ⟨p, n, b, k0, k1, k2, b1, b2, b3, b4, b5, b6, b7, b8, b9, b10, eact, rfl, ef⟩
    · refine ⟨(nI i), (gup (gup m 24 1 (nI i)) 3 4 (nI h0)), (gup (gupA (gup (gup (gup (gup m 24 1 (nI i)) 3 4 (nI h0)) 46 0 (nI 0)) 46 21 (nI i)) 52 (cpP (m.1 52) (fun j => m.1 57 (58 * i + j)) 0 58)) 46 11 (m.1 57 (58 * i + 57))), ?_, ?_, ?_⟩
      · show Go O (d + 4) kX6_undo _ _ 0 [.ref 0, .null] [] m
        refine go_aload_n dX6_undo_0 rfl ?_
        refine go_getc dX6_undo_1 fX6_33 rfl (by decide) (by decide) (by decide) rfl ?_
        refine go_geti dX6_undo_4 fX6_78 rfl (by decide) (by decide) (by decide) rfl a24 ?_
        refine go_if_ne 13 dX6_undo_7 (by decide) (fun h7 => ?_) (fun h => absurd h (nI_ne0 (by omega) (by omega)))
        refine go_aload_n dX6_undo_13 rfl ?_
        refine go_getc dX6_undo_14 fX6_33 rfl (by decide) (by decide) (by decide) rfl ?_
        refine go_callV1 (K' := kX0_takeLast) [] dX6_undo_17 mX6_162 lX0_takeLast rfl (by decide) rfl (by decide) rfl rfl (Nat.le_of_ble_eq_true rfl) (Nat.le_of_ble_eq_true rfl) (c_takeLast a24 (by omega)) ?_
        refine go_istore_n (L' := [_, _]) dX6_undo_20 (by decide) rfl ?_
        refine go_iload_n dX6_undo_21 rfl ?_
        refine go_iconst (-1) dX6_undo_22 (by decide +kernel) ?_
        refine go_icmp_ne 42 dX6_undo_23 (by decide) (fun h => absurd h (fun q => q eact)) (fun h23 => ?_)
        refine go_aload_n dX6_undo_26 rfl ?_
        refine go_getc dX6_undo_27 fX6_19 rfl (by decide) (by decide) (by decide) rfl ?_
        refine go_dup dX6_undo_30 rfl ?_
        refine go_geti dX6_undo_31 fX6_94 rfl (by decide) (by decide) (by decide) rfl s4 ?_
        refine go_iconst (nI 1) dX6_undo_34 (by decide +kernel) ?_
        refine go_isub dX6_undo_35 (show nI (h0 + 1) - nI 1 = nI h0 from nI_pred h0) ?_
        refine go_puti dX6_undo_36 fX6_94 rfl (by decide) (by decide) (by decide) rfl (fun _ _ _ h => by cases h; rfl) (Or.inl rfl) ?_
        refine go_goto 73 dX6_undo_39 (by decide) ?_
        refine go_aload_n dX6_undo_73 rfl ?_
        refine go_getc dX6_undo_74 fX6_33 rfl (by decide) (by decide) (by decide) rfl ?_
        refine go_geti dX6_undo_77 fX6_78 rfl (by decide) (by decide) (by decide) rfl (Eq.refl (nI i)) ?_
        exact go_iret dX6_undo_80 rfl rfl rfl
      · show Go O (d + 4) kX7_undo _ _ 0 [.ref 46] [] (gup (gup m 24 1 (nI i)) 3 4 (nI h0))
        refine go_aload_n dX7_undo_0 rfl ?_
        refine go_iconst (nI 0) dX7_undo_1 (by decide +kernel) ?_
        refine go_puti dX7_undo_2 fX7_77 rfl (by decide) (by decide) (by decide) rfl (fun _ _ _ h => by cases h; rfl) (Or.inl rfl) ?_
        refine go_aload_n dX7_undo_5 rfl ?_
        refine go_geti dX7_undo_6 fX7_140 rfl (by decide) (by decide) (by decide) rfl a21 ?_
        refine go_if_ne 15 dX7_undo_9 (by decide) (fun h9 => ?_) (fun h => absurd h (nI_ne0 (by omega) (by omega)))
        refine go_aload_n dX7_undo_15 rfl ?_
        refine go_dup dX7_undo_16 rfl ?_
        refine go_geti dX7_undo_17 fX7_140 rfl (by decide) (by decide) (by decide) rfl a21 ?_
        refine go_iconst (nI 1) dX7_undo_20 (by decide +kernel) ?_
        refine go_isub dX7_undo_21 (show nI (i + 1) - nI 1 = nI i from nI_pred i) ?_
        refine go_puti dX7_undo_22 fX7_140 rfl (by decide) (by decide) (by decide) rfl (fun _ _ _ h => by cases h; rfl) (Or.inl rfl) ?_
        refine go_aload_n dX7_undo_25 rfl ?_
        refine go_aload_n dX7_undo_26 rfl ?_
        refine go_getc dX7_undo_27 fX7_40 rfl (by decide) (by decide) (by decide) rfl ?_
        refine go_bipush (nI 58) dX7_undo_30 (by decide +kernel) ?_
        refine go_aload_n dX7_undo_32 rfl ?_
        refine go_geti dX7_undo_33 fX7_140 rfl (by decide) (by decide) (by decide) rfl (Eq.refl (nI i)) ?_
        first | refine go_imul_n dX7_undo_36 ?_ | refine go_imul dX7_undo_36 rfl ?_
        refine go_callV0 (K' := kX7_takePage) [_, _] dX7_undo_37 mX7_176 lX7_takePage rfl (by decide) rfl (by decide) rfl rfl (Nat.le_of_ble_eq_true rfl) (Nat.le_of_ble_eq_true rfl) (c_takePage_57 (by omega)) ?_
        refine go_aload_n dX7_undo_40 rfl ?_
        refine go_geti dX7_undo_41 fX7_140 rfl (by decide) (by decide) (by decide) rfl (Eq.refl (nI i)) ?_
        exact go_iret dX7_undo_44 rfl rfl rfl
      · have ep : PgE f (((gup (gupA (gup (gup (gup (gup m 24 1 (nI i)) 3 4 (nI h0)) 46 0 (nI 0)) 46 21 (nI i)) 52 (cpP (m.1 52) (fun j => m.1 57 (58 * i + j)) 0 58)) 46 11 (m.1 57 (58 * i + 57)))).1 52) := by
          intro j hj
          show f j = cpP (m.1 52) (fun j => m.1 57 (58 * i + j)) 0 58 j
          rw [cpP_pg _ _ j hj]
          exact (r1 j hj).symm
        have hA := r5 (gup (gupA (gup (gup (gup (gup m 24 1 (nI i)) 3 4 (nI h0)) 46 0 (nI 0)) 46 21 (nI i)) 52 (cpP (m.1 52) (fun j => m.1 57 (58 * i + j)) 0 58)) 46 11 (m.1 57 (58 * i + 57))) rfl rfl rfl rfl rfl ep
        refine Inv.mk5 h1 h2 h3 h6 h7 h8 rfl ?_ ?_ ⟨?_, r2, r3.of ep⟩ hA
        · intro k z1 z2 z3 z4 z5 z6 z7 z8 z9 z10
          rw [gup_k _ _ z8, gupA_k _ _ z9, gup_k _ _ z8, gup_k _ _ z8, gup_k _ _ z1, gup_k _ _ z6]
        · intro i' z1 z2 z3
          rw [gup_i _ _ z2, gupA_k _ _ (by decide), gup_i _ _ z3, gup_i _ _ z1, gup_k _ _ (by decide), gup_k _ _ (by decide)]
        · obtain ⟨c1, c2, c3, c4, c5⟩ := (h4.1.of ef).of ep
          exact ⟨rfl, c2, c3, c4, c5⟩
    · obtain ⟨t5, t6, t7, tp, tg, tn⟩ : IvT m 29 P N lw := hT ▸ h3
      have hG : (grp (m.1 48) P hr b) < 64 := grp_64 _ _ _ hP6
      have hq : pk3 k0 k1 k2 < 262144 := by rw [pk3]; omega
      have cT : Ca O (d + 3) kX0_takeLast [.ref 24] (some (.int (nI (tcN p n (pk3 k0 k1 k2))))) m (gup m 24 1 (nI i)) := by
        rw [← eact]
        exact c_takeLast a24 (by omega)
      have tl := tcN_lt (p := p) (n := n) (by omega) (by omega) hq
      refine ⟨(nI i), (gup (gup (gup (ctM (gup m 24 1 (nI i)) 3 p n b (grp (m.1 48) P hr b) P (-1)) 4 0 (nI k0)) 4 1 (nI k1)) 4 2 (nI k2)), (gup (gupA (gup (gup (gup (gup (gup (ctM (gup m 24 1 (nI i)) 3 p n b (grp (m.1 48) P hr b) P (-1)) 4 0 (nI k0)) 4 1 (nI k1)) 4 2 (nI k2)) 46 0 (nI 0)) 46 21 (nI i)) 52 (cpP (m.1 52) (fun j => m.1 57 (58 * i + j)) 0 58)) 46 11 (m.1 57 (58 * i + 57))), ?_, ?_, ?_⟩
      · show Go O (d + 4) kX6_undo _ _ 0 [.ref 0, .null] [] m
        refine go_aload_n dX6_undo_0 rfl ?_
        refine go_getc dX6_undo_1 fX6_33 rfl (by decide) (by decide) (by decide) rfl ?_
        refine go_geti dX6_undo_4 fX6_78 rfl (by decide) (by decide) (by decide) rfl a24 ?_
        refine go_if_ne 13 dX6_undo_7 (by decide) (fun h7 => ?_) (fun h => absurd h (nI_ne0 (by omega) (by omega)))
        refine go_aload_n dX6_undo_13 rfl ?_
        refine go_getc dX6_undo_14 fX6_33 rfl (by decide) (by decide) (by decide) rfl ?_
        refine go_callV1 (K' := kX0_takeLast) [] dX6_undo_17 mX6_162 lX0_takeLast rfl (by decide) rfl (by decide) rfl rfl (Nat.le_of_ble_eq_true rfl) (Nat.le_of_ble_eq_true rfl) (cT) ?_
        refine go_istore_n (L' := [_, _]) dX6_undo_20 (by decide) rfl ?_
        refine go_iload_n dX6_undo_21 rfl ?_
        refine go_iconst (-1) dX6_undo_22 (by decide +kernel) ?_
        refine go_icmp_ne 42 dX6_undo_23 (by decide) (fun h23 => ?_) (fun h => absurd h (fun q => absurd q (nI_nn (b := 1) (by omega) (by omega) (by omega))))
        refine go_aload_n dX6_undo_42 rfl ?_
        refine go_getc dX6_undo_43 fX6_19 rfl (by decide) (by decide) (by decide) rfl ?_
        refine go_aload_n dX6_undo_46 rfl ?_
        refine go_getm dX6_undo_47 fX6_47 rfl (by decide) (by decide) (by decide) rfl hT ?_
        refine go_iload_n dX6_undo_50 rfl ?_
        refine go_callS1 (K' := kX0_teller) [_] dX6_undo_51 mX6_165 lX0_teller rfl rfl (Nat.le_of_ble_eq_true rfl) (Nat.le_of_ble_eq_true rfl) (c_teller (by omega) (by omega) hq) ?_
        refine go_iload_n dX6_undo_54 rfl ?_
        refine go_callS1 (K' := kX0_newsOf) [_] dX6_undo_55 mX6_168 lX0_newsOf rfl rfl (Nat.le_of_ble_eq_true rfl) (Nat.le_of_ble_eq_true rfl) (c_newsOf (by omega) (by omega) hq) ?_
        refine go_iconst (-1) dX6_undo_58 (by decide +kernel) ?_
        refine go_callV0 (K' := kX5_count) [_, _, _, _] dX6_undo_59 mX6_171 lX5_count rfl (by decide) rfl (by decide) rfl rfl (Nat.le_of_ble_eq_true rfl) (Nat.le_of_ble_eq_true rfl) (c_count_3_29 s4 ok1 (by omega) (by omega) b3 ((tp p hr b1 ok1).trans b4) (tg hr b ok1 b3) hG t5 hP6) ?_
        refine go_aload_n dX6_undo_62 rfl ?_
        refine go_getc dX6_undo_63 fX6_19 rfl (by decide) (by decide) (by decide) rfl ?_
        refine go_iload_n dX6_undo_66 rfl ?_
        refine go_callS1 (K' := kX0_packedKnown) [_] dX6_undo_67 mX6_174 lX0_packedKnown rfl rfl (Nat.le_of_ble_eq_true rfl) (Nat.le_of_ble_eq_true rfl) (c_packedOf (by omega) (by omega) hq) ?_
        refine go_callV0 (K' := kX5_unpackKnown) [_] dX6_undo_70 mX6_176 lX5_unpackKnown rfl (by decide) rfl (by decide) rfl rfl (Nat.le_of_ble_eq_true rfl) (Nat.le_of_ble_eq_true rfl) (c_unpackKnown_3 b8 b9 b10) ?_
        refine go_aload_n dX6_undo_73 rfl ?_
        refine go_getc dX6_undo_74 fX6_33 rfl (by decide) (by decide) (by decide) rfl ?_
        refine go_geti dX6_undo_77 fX6_78 rfl (by decide) (by decide) (by decide) rfl (Eq.refl (nI i)) ?_
        exact go_iret dX6_undo_80 rfl rfl rfl
      · show Go O (d + 4) kX7_undo _ _ 0 [.ref 46] [] (gup (gup (gup (ctM (gup m 24 1 (nI i)) 3 p n b (grp (m.1 48) P hr b) P (-1)) 4 0 (nI k0)) 4 1 (nI k1)) 4 2 (nI k2))
        refine go_aload_n dX7_undo_0 rfl ?_
        refine go_iconst (nI 0) dX7_undo_1 (by decide +kernel) ?_
        refine go_puti dX7_undo_2 fX7_77 rfl (by decide) (by decide) (by decide) rfl (fun _ _ _ h => by cases h; rfl) (Or.inl rfl) ?_
        refine go_aload_n dX7_undo_5 rfl ?_
        refine go_geti dX7_undo_6 fX7_140 rfl (by decide) (by decide) (by decide) rfl a21 ?_
        refine go_if_ne 15 dX7_undo_9 (by decide) (fun h9 => ?_) (fun h => absurd h (nI_ne0 (by omega) (by omega)))
        refine go_aload_n dX7_undo_15 rfl ?_
        refine go_dup dX7_undo_16 rfl ?_
        refine go_geti dX7_undo_17 fX7_140 rfl (by decide) (by decide) (by decide) rfl a21 ?_
        refine go_iconst (nI 1) dX7_undo_20 (by decide +kernel) ?_
        refine go_isub dX7_undo_21 (show nI (i + 1) - nI 1 = nI i from nI_pred i) ?_
        refine go_puti dX7_undo_22 fX7_140 rfl (by decide) (by decide) (by decide) rfl (fun _ _ _ h => by cases h; rfl) (Or.inl rfl) ?_
        refine go_aload_n dX7_undo_25 rfl ?_
        refine go_aload_n dX7_undo_26 rfl ?_
        refine go_getc dX7_undo_27 fX7_40 rfl (by decide) (by decide) (by decide) rfl ?_
        refine go_bipush (nI 58) dX7_undo_30 (by decide +kernel) ?_
        refine go_aload_n dX7_undo_32 rfl ?_
        refine go_geti dX7_undo_33 fX7_140 rfl (by decide) (by decide) (by decide) rfl (Eq.refl (nI i)) ?_
        first | refine go_imul_n dX7_undo_36 ?_ | refine go_imul dX7_undo_36 rfl ?_
        refine go_callV0 (K' := kX7_takePage) [_, _] dX7_undo_37 mX7_176 lX7_takePage rfl (by decide) rfl (by decide) rfl rfl (Nat.le_of_ble_eq_true rfl) (Nat.le_of_ble_eq_true rfl) (c_takePage_57 (by omega)) ?_
        refine go_aload_n dX7_undo_40 rfl ?_
        refine go_geti dX7_undo_41 fX7_140 rfl (by decide) (by decide) (by decide) rfl (Eq.refl (nI i)) ?_
        exact go_iret dX7_undo_44 rfl rfl rfl
      · have ep : PgE f (((gup (gupA (gup (gup (gup (gup (gup (ctM (gup m 24 1 (nI i)) 3 p n b (grp (m.1 48) P hr b) P (-1)) 4 0 (nI k0)) 4 1 (nI k1)) 4 2 (nI k2)) 46 0 (nI 0)) 46 21 (nI i)) 52 (cpP (m.1 52) (fun j => m.1 57 (58 * i + j)) 0 58)) 46 11 (m.1 57 (58 * i + 57)))).1 52) := by
          intro j hj
          show f j = cpP (m.1 52) (fun j => m.1 57 (58 * i + j)) 0 58 j
          rw [cpP_pg _ _ j hj]
          exact (r1 j hj).symm
        have hA := r5 (gup (gupA (gup (gup (gup (gup (gup (ctM (gup m 24 1 (nI i)) 3 p n b (grp (m.1 48) P hr b) P (-1)) 4 0 (nI k0)) 4 1 (nI k1)) 4 2 (nI k2)) 46 0 (nI 0)) 46 21 (nI i)) 52 (cpP (m.1 52) (fun j => m.1 57 (58 * i + j)) 0 58)) 46 11 (m.1 57 (58 * i + 57))) rfl rfl rfl rfl rfl ep
        refine Inv.mk5 h1 h2 h3 h6 h7 h8 rfl ?_ ?_ ⟨?_, r2, r3.of ep⟩ hA
        · intro k z1 z2 z3 z4 z5 z6 z7 z8 z9 z10
          rw [gup_k _ _ z8, gupA_k _ _ z9, gup_k _ _ z8, gup_k _ _ z8, gup_k _ _ z2, gup_k _ _ z2, gup_k _ _ z2, ctM_o _ _ _ _ _ _ _ z3 z4 z5, gup_k _ _ z6]
        · intro i' z1 z2 z3
          rw [gup_i _ _ z2, gupA_k _ _ (by decide), gup_i _ _ z3, gup_i _ _ z1, gup_k _ _ (by decide), gup_k _ _ (by decide), gup_k _ _ (by decide), ctM_o _ _ _ _ _ _ _ (by decide) (by decide) (by decide), gup_k _ _ (by decide)]
        · have hu := StP.undo (m := (gup m 24 1 (nI i))) (G := (grp (m.1 48) P hr b)) (P := P) (N := N) (h4.1.kept rfl rfl rfl rfl rfl) ef (by omega) (by omega) b3 hP6 b5 b6 b7
          exact (hu.kept (m' := (gup (gupA (gup (gup (gup (gup (gup (ctM (gup m 24 1 (nI i)) 3 p n b (grp (m.1 48) P hr b) P (-1)) 4 0 (nI k0)) 4 1 (nI k1)) 4 2 (nI k2)) 46 0 (nI 0)) 46 21 (nI i)) 52 (cpP (m.1 52) (fun j => m.1 57 (58 * i + j)) 0 58)) 46 11 (m.1 57 (58 * i + 57)))) rfl rfl rfl rfl rfl).of ep
theorem op_undo_35 {O : gOm} {d : Nat} {m : gMem} (h0 : Inv m) (hT : m.2 0 = 35) : OpOk O (d + 4) kX6_undo kX7_undo [] m := by
  have hthr := h0.thr
  obtain ⟨P, N, lw, hr, a, c, L, lim, h1, h2, h3, h4, h5, h6, h7, h8⟩ := h0
  have hP6 := h2.2.1
  have hN3 := h2.2.2.2.1
  have s4 := h4.1.1
  have ok1 := h4.2.2.1
  have a24 := h5.2.1
  have a21 := h5.2.2.1
  have ha16 := h5.1
  match a, a24, a21, ha16, h5 with
  | 0, a24, a21, _, _ =>
    refine ⟨(-3), m, gup m 46 0 (nI 0), ?_, ?_, hthr⟩
    · show Go O (d + 4) kX6_undo _ _ 0 [.ref 0, .null] [] m
      refine go_aload_n dX6_undo_0 rfl ?_
      refine go_getc dX6_undo_1 fX6_33 rfl (by decide) (by decide) (by decide) rfl ?_
      refine go_geti dX6_undo_4 fX6_78 rfl (by decide) (by decide) (by decide) rfl a24 ?_
      refine go_if_ne 13 dX6_undo_7 (by decide) (fun h => absurd h (fun q => q rfl)) (fun h7 => ?_)
      refine go_bipush (-3) dX6_undo_10 (by decide +kernel) ?_
      exact go_iret dX6_undo_12 rfl rfl rfl
    · show Go O (d + 4) kX7_undo _ _ 0 [.ref 46] [] m
      refine go_aload_n dX7_undo_0 rfl ?_
      refine go_iconst (nI 0) dX7_undo_1 (by decide +kernel) ?_
      refine go_puti dX7_undo_2 fX7_77 rfl (by decide) (by decide) (by decide) rfl (fun _ _ _ h => by cases h; rfl) (Or.inl rfl) ?_
      refine go_aload_n dX7_undo_5 rfl ?_
      refine go_geti dX7_undo_6 fX7_140 rfl (by decide) (by decide) (by decide) rfl a21 ?_
      refine go_if_ne 15 dX7_undo_9 (by decide) (fun h => absurd h (fun q => q rfl)) (fun h9 => ?_)
      refine go_bipush (-3) dX7_undo_12 (by decide +kernel) ?_
      exact go_iret dX7_undo_14 rfl rfl rfl
  | i + 1, a24, a21, ha16, h5 =>
    obtain ⟨f, h0, r1, r2, r3, r4, r5⟩ := h5.pop hP6 hN3
    rcases r4 with ⟨eact, rfl, ef⟩ | ⟨p, n, b, k0, k1, k2, b1, b2, b3, b4, b5, b6, b7, b8, b9, b10, eact, rfl, ef⟩
    · refine ⟨(nI i), (gup (gup m 24 1 (nI i)) 3 4 (nI h0)), (gup (gupA (gup (gup (gup (gup m 24 1 (nI i)) 3 4 (nI h0)) 46 0 (nI 0)) 46 21 (nI i)) 52 (cpP (m.1 52) (fun j => m.1 57 (58 * i + j)) 0 58)) 46 11 (m.1 57 (58 * i + 57))), ?_, ?_, ?_⟩
      · show Go O (d + 4) kX6_undo _ _ 0 [.ref 0, .null] [] m
        refine go_aload_n dX6_undo_0 rfl ?_
        refine go_getc dX6_undo_1 fX6_33 rfl (by decide) (by decide) (by decide) rfl ?_
        refine go_geti dX6_undo_4 fX6_78 rfl (by decide) (by decide) (by decide) rfl a24 ?_
        refine go_if_ne 13 dX6_undo_7 (by decide) (fun h7 => ?_) (fun h => absurd h (nI_ne0 (by omega) (by omega)))
        refine go_aload_n dX6_undo_13 rfl ?_
        refine go_getc dX6_undo_14 fX6_33 rfl (by decide) (by decide) (by decide) rfl ?_
        refine go_callV1 (K' := kX0_takeLast) [] dX6_undo_17 mX6_162 lX0_takeLast rfl (by decide) rfl (by decide) rfl rfl (Nat.le_of_ble_eq_true rfl) (Nat.le_of_ble_eq_true rfl) (c_takeLast a24 (by omega)) ?_
        refine go_istore_n (L' := [_, _]) dX6_undo_20 (by decide) rfl ?_
        refine go_iload_n dX6_undo_21 rfl ?_
        refine go_iconst (-1) dX6_undo_22 (by decide +kernel) ?_
        refine go_icmp_ne 42 dX6_undo_23 (by decide) (fun h => absurd h (fun q => q eact)) (fun h23 => ?_)
        refine go_aload_n dX6_undo_26 rfl ?_
        refine go_getc dX6_undo_27 fX6_19 rfl (by decide) (by decide) (by decide) rfl ?_
        refine go_dup dX6_undo_30 rfl ?_
        refine go_geti dX6_undo_31 fX6_94 rfl (by decide) (by decide) (by decide) rfl s4 ?_
        refine go_iconst (nI 1) dX6_undo_34 (by decide +kernel) ?_
        refine go_isub dX6_undo_35 (show nI (h0 + 1) - nI 1 = nI h0 from nI_pred h0) ?_
        refine go_puti dX6_undo_36 fX6_94 rfl (by decide) (by decide) (by decide) rfl (fun _ _ _ h => by cases h; rfl) (Or.inl rfl) ?_
        refine go_goto 73 dX6_undo_39 (by decide) ?_
        refine go_aload_n dX6_undo_73 rfl ?_
        refine go_getc dX6_undo_74 fX6_33 rfl (by decide) (by decide) (by decide) rfl ?_
        refine go_geti dX6_undo_77 fX6_78 rfl (by decide) (by decide) (by decide) rfl (Eq.refl (nI i)) ?_
        exact go_iret dX6_undo_80 rfl rfl rfl
      · show Go O (d + 4) kX7_undo _ _ 0 [.ref 46] [] (gup (gup m 24 1 (nI i)) 3 4 (nI h0))
        refine go_aload_n dX7_undo_0 rfl ?_
        refine go_iconst (nI 0) dX7_undo_1 (by decide +kernel) ?_
        refine go_puti dX7_undo_2 fX7_77 rfl (by decide) (by decide) (by decide) rfl (fun _ _ _ h => by cases h; rfl) (Or.inl rfl) ?_
        refine go_aload_n dX7_undo_5 rfl ?_
        refine go_geti dX7_undo_6 fX7_140 rfl (by decide) (by decide) (by decide) rfl a21 ?_
        refine go_if_ne 15 dX7_undo_9 (by decide) (fun h9 => ?_) (fun h => absurd h (nI_ne0 (by omega) (by omega)))
        refine go_aload_n dX7_undo_15 rfl ?_
        refine go_dup dX7_undo_16 rfl ?_
        refine go_geti dX7_undo_17 fX7_140 rfl (by decide) (by decide) (by decide) rfl a21 ?_
        refine go_iconst (nI 1) dX7_undo_20 (by decide +kernel) ?_
        refine go_isub dX7_undo_21 (show nI (i + 1) - nI 1 = nI i from nI_pred i) ?_
        refine go_puti dX7_undo_22 fX7_140 rfl (by decide) (by decide) (by decide) rfl (fun _ _ _ h => by cases h; rfl) (Or.inl rfl) ?_
        refine go_aload_n dX7_undo_25 rfl ?_
        refine go_aload_n dX7_undo_26 rfl ?_
        refine go_getc dX7_undo_27 fX7_40 rfl (by decide) (by decide) (by decide) rfl ?_
        refine go_bipush (nI 58) dX7_undo_30 (by decide +kernel) ?_
        refine go_aload_n dX7_undo_32 rfl ?_
        refine go_geti dX7_undo_33 fX7_140 rfl (by decide) (by decide) (by decide) rfl (Eq.refl (nI i)) ?_
        first | refine go_imul_n dX7_undo_36 ?_ | refine go_imul dX7_undo_36 rfl ?_
        refine go_callV0 (K' := kX7_takePage) [_, _] dX7_undo_37 mX7_176 lX7_takePage rfl (by decide) rfl (by decide) rfl rfl (Nat.le_of_ble_eq_true rfl) (Nat.le_of_ble_eq_true rfl) (c_takePage_57 (by omega)) ?_
        refine go_aload_n dX7_undo_40 rfl ?_
        refine go_geti dX7_undo_41 fX7_140 rfl (by decide) (by decide) (by decide) rfl (Eq.refl (nI i)) ?_
        exact go_iret dX7_undo_44 rfl rfl rfl
      · have ep : PgE f (((gup (gupA (gup (gup (gup (gup m 24 1 (nI i)) 3 4 (nI h0)) 46 0 (nI 0)) 46 21 (nI i)) 52 (cpP (m.1 52) (fun j => m.1 57 (58 * i + j)) 0 58)) 46 11 (m.1 57 (58 * i + 57)))).1 52) := by
          intro j hj
          show f j = cpP (m.1 52) (fun j => m.1 57 (58 * i + j)) 0 58 j
          rw [cpP_pg _ _ j hj]
          exact (r1 j hj).symm
        have hA := r5 (gup (gupA (gup (gup (gup (gup m 24 1 (nI i)) 3 4 (nI h0)) 46 0 (nI 0)) 46 21 (nI i)) 52 (cpP (m.1 52) (fun j => m.1 57 (58 * i + j)) 0 58)) 46 11 (m.1 57 (58 * i + 57))) rfl rfl rfl rfl rfl ep
        refine Inv.mk5 h1 h2 h3 h6 h7 h8 rfl ?_ ?_ ⟨?_, r2, r3.of ep⟩ hA
        · intro k z1 z2 z3 z4 z5 z6 z7 z8 z9 z10
          rw [gup_k _ _ z8, gupA_k _ _ z9, gup_k _ _ z8, gup_k _ _ z8, gup_k _ _ z1, gup_k _ _ z6]
        · intro i' z1 z2 z3
          rw [gup_i _ _ z2, gupA_k _ _ (by decide), gup_i _ _ z3, gup_i _ _ z1, gup_k _ _ (by decide), gup_k _ _ (by decide)]
        · obtain ⟨c1, c2, c3, c4, c5⟩ := (h4.1.of ef).of ep
          exact ⟨rfl, c2, c3, c4, c5⟩
    · obtain ⟨t5, t6, t7, tp, tg, tn⟩ : IvT m 35 P N lw := hT ▸ h3
      have hG : (grp (m.1 48) P hr b) < 64 := grp_64 _ _ _ hP6
      have hq : pk3 k0 k1 k2 < 262144 := by rw [pk3]; omega
      have cT : Ca O (d + 3) kX0_takeLast [.ref 24] (some (.int (nI (tcN p n (pk3 k0 k1 k2))))) m (gup m 24 1 (nI i)) := by
        rw [← eact]
        exact c_takeLast a24 (by omega)
      have tl := tcN_lt (p := p) (n := n) (by omega) (by omega) hq
      refine ⟨(nI i), (gup (gup (gup (ctM (gup m 24 1 (nI i)) 3 p n b (grp (m.1 48) P hr b) P (-1)) 4 0 (nI k0)) 4 1 (nI k1)) 4 2 (nI k2)), (gup (gupA (gup (gup (gup (gup (gup (ctM (gup m 24 1 (nI i)) 3 p n b (grp (m.1 48) P hr b) P (-1)) 4 0 (nI k0)) 4 1 (nI k1)) 4 2 (nI k2)) 46 0 (nI 0)) 46 21 (nI i)) 52 (cpP (m.1 52) (fun j => m.1 57 (58 * i + j)) 0 58)) 46 11 (m.1 57 (58 * i + 57))), ?_, ?_, ?_⟩
      · show Go O (d + 4) kX6_undo _ _ 0 [.ref 0, .null] [] m
        refine go_aload_n dX6_undo_0 rfl ?_
        refine go_getc dX6_undo_1 fX6_33 rfl (by decide) (by decide) (by decide) rfl ?_
        refine go_geti dX6_undo_4 fX6_78 rfl (by decide) (by decide) (by decide) rfl a24 ?_
        refine go_if_ne 13 dX6_undo_7 (by decide) (fun h7 => ?_) (fun h => absurd h (nI_ne0 (by omega) (by omega)))
        refine go_aload_n dX6_undo_13 rfl ?_
        refine go_getc dX6_undo_14 fX6_33 rfl (by decide) (by decide) (by decide) rfl ?_
        refine go_callV1 (K' := kX0_takeLast) [] dX6_undo_17 mX6_162 lX0_takeLast rfl (by decide) rfl (by decide) rfl rfl (Nat.le_of_ble_eq_true rfl) (Nat.le_of_ble_eq_true rfl) (cT) ?_
        refine go_istore_n (L' := [_, _]) dX6_undo_20 (by decide) rfl ?_
        refine go_iload_n dX6_undo_21 rfl ?_
        refine go_iconst (-1) dX6_undo_22 (by decide +kernel) ?_
        refine go_icmp_ne 42 dX6_undo_23 (by decide) (fun h23 => ?_) (fun h => absurd h (fun q => absurd q (nI_nn (b := 1) (by omega) (by omega) (by omega))))
        refine go_aload_n dX6_undo_42 rfl ?_
        refine go_getc dX6_undo_43 fX6_19 rfl (by decide) (by decide) (by decide) rfl ?_
        refine go_aload_n dX6_undo_46 rfl ?_
        refine go_getm dX6_undo_47 fX6_47 rfl (by decide) (by decide) (by decide) rfl hT ?_
        refine go_iload_n dX6_undo_50 rfl ?_
        refine go_callS1 (K' := kX0_teller) [_] dX6_undo_51 mX6_165 lX0_teller rfl rfl (Nat.le_of_ble_eq_true rfl) (Nat.le_of_ble_eq_true rfl) (c_teller (by omega) (by omega) hq) ?_
        refine go_iload_n dX6_undo_54 rfl ?_
        refine go_callS1 (K' := kX0_newsOf) [_] dX6_undo_55 mX6_168 lX0_newsOf rfl rfl (Nat.le_of_ble_eq_true rfl) (Nat.le_of_ble_eq_true rfl) (c_newsOf (by omega) (by omega) hq) ?_
        refine go_iconst (-1) dX6_undo_58 (by decide +kernel) ?_
        refine go_callV0 (K' := kX5_count) [_, _, _, _] dX6_undo_59 mX6_171 lX5_count rfl (by decide) rfl (by decide) rfl rfl (Nat.le_of_ble_eq_true rfl) (Nat.le_of_ble_eq_true rfl) (c_count_3_35 s4 ok1 (by omega) (by omega) b3 ((tp p hr b1 ok1).trans b4) (tg hr b ok1 b3) hG t5 hP6) ?_
        refine go_aload_n dX6_undo_62 rfl ?_
        refine go_getc dX6_undo_63 fX6_19 rfl (by decide) (by decide) (by decide) rfl ?_
        refine go_iload_n dX6_undo_66 rfl ?_
        refine go_callS1 (K' := kX0_packedKnown) [_] dX6_undo_67 mX6_174 lX0_packedKnown rfl rfl (Nat.le_of_ble_eq_true rfl) (Nat.le_of_ble_eq_true rfl) (c_packedOf (by omega) (by omega) hq) ?_
        refine go_callV0 (K' := kX5_unpackKnown) [_] dX6_undo_70 mX6_176 lX5_unpackKnown rfl (by decide) rfl (by decide) rfl rfl (Nat.le_of_ble_eq_true rfl) (Nat.le_of_ble_eq_true rfl) (c_unpackKnown_3 b8 b9 b10) ?_
        refine go_aload_n dX6_undo_73 rfl ?_
        refine go_getc dX6_undo_74 fX6_33 rfl (by decide) (by decide) (by decide) rfl ?_
        refine go_geti dX6_undo_77 fX6_78 rfl (by decide) (by decide) (by decide) rfl (Eq.refl (nI i)) ?_
        exact go_iret dX6_undo_80 rfl rfl rfl
      · show Go O (d + 4) kX7_undo _ _ 0 [.ref 46] [] (gup (gup (gup (ctM (gup m 24 1 (nI i)) 3 p n b (grp (m.1 48) P hr b) P (-1)) 4 0 (nI k0)) 4 1 (nI k1)) 4 2 (nI k2))
        refine go_aload_n dX7_undo_0 rfl ?_
        refine go_iconst (nI 0) dX7_undo_1 (by decide +kernel) ?_
        refine go_puti dX7_undo_2 fX7_77 rfl (by decide) (by decide) (by decide) rfl (fun _ _ _ h => by cases h; rfl) (Or.inl rfl) ?_
        refine go_aload_n dX7_undo_5 rfl ?_
        refine go_geti dX7_undo_6 fX7_140 rfl (by decide) (by decide) (by decide) rfl a21 ?_
        refine go_if_ne 15 dX7_undo_9 (by decide) (fun h9 => ?_) (fun h => absurd h (nI_ne0 (by omega) (by omega)))
        refine go_aload_n dX7_undo_15 rfl ?_
        refine go_dup dX7_undo_16 rfl ?_
        refine go_geti dX7_undo_17 fX7_140 rfl (by decide) (by decide) (by decide) rfl a21 ?_
        refine go_iconst (nI 1) dX7_undo_20 (by decide +kernel) ?_
        refine go_isub dX7_undo_21 (show nI (i + 1) - nI 1 = nI i from nI_pred i) ?_
        refine go_puti dX7_undo_22 fX7_140 rfl (by decide) (by decide) (by decide) rfl (fun _ _ _ h => by cases h; rfl) (Or.inl rfl) ?_
        refine go_aload_n dX7_undo_25 rfl ?_
        refine go_aload_n dX7_undo_26 rfl ?_
        refine go_getc dX7_undo_27 fX7_40 rfl (by decide) (by decide) (by decide) rfl ?_
        refine go_bipush (nI 58) dX7_undo_30 (by decide +kernel) ?_
        refine go_aload_n dX7_undo_32 rfl ?_
        refine go_geti dX7_undo_33 fX7_140 rfl (by decide) (by decide) (by decide) rfl (Eq.refl (nI i)) ?_
        first | refine go_imul_n dX7_undo_36 ?_ | refine go_imul dX7_undo_36 rfl ?_
        refine go_callV0 (K' := kX7_takePage) [_, _] dX7_undo_37 mX7_176 lX7_takePage rfl (by decide) rfl (by decide) rfl rfl (Nat.le_of_ble_eq_true rfl) (Nat.le_of_ble_eq_true rfl) (c_takePage_57 (by omega)) ?_
        refine go_aload_n dX7_undo_40 rfl ?_
        refine go_geti dX7_undo_41 fX7_140 rfl (by decide) (by decide) (by decide) rfl (Eq.refl (nI i)) ?_
        exact go_iret dX7_undo_44 rfl rfl rfl
      · have ep : PgE f (((gup (gupA (gup (gup (gup (gup (gup (ctM (gup m 24 1 (nI i)) 3 p n b (grp (m.1 48) P hr b) P (-1)) 4 0 (nI k0)) 4 1 (nI k1)) 4 2 (nI k2)) 46 0 (nI 0)) 46 21 (nI i)) 52 (cpP (m.1 52) (fun j => m.1 57 (58 * i + j)) 0 58)) 46 11 (m.1 57 (58 * i + 57)))).1 52) := by
          intro j hj
          show f j = cpP (m.1 52) (fun j => m.1 57 (58 * i + j)) 0 58 j
          rw [cpP_pg _ _ j hj]
          exact (r1 j hj).symm
        have hA := r5 (gup (gupA (gup (gup (gup (gup (gup (ctM (gup m 24 1 (nI i)) 3 p n b (grp (m.1 48) P hr b) P (-1)) 4 0 (nI k0)) 4 1 (nI k1)) 4 2 (nI k2)) 46 0 (nI 0)) 46 21 (nI i)) 52 (cpP (m.1 52) (fun j => m.1 57 (58 * i + j)) 0 58)) 46 11 (m.1 57 (58 * i + 57))) rfl rfl rfl rfl rfl ep
        refine Inv.mk5 h1 h2 h3 h6 h7 h8 rfl ?_ ?_ ⟨?_, r2, r3.of ep⟩ hA
        · intro k z1 z2 z3 z4 z5 z6 z7 z8 z9 z10
          rw [gup_k _ _ z8, gupA_k _ _ z9, gup_k _ _ z8, gup_k _ _ z8, gup_k _ _ z2, gup_k _ _ z2, gup_k _ _ z2, ctM_o _ _ _ _ _ _ _ z3 z4 z5, gup_k _ _ z6]
        · intro i' z1 z2 z3
          rw [gup_i _ _ z2, gupA_k _ _ (by decide), gup_i _ _ z3, gup_i _ _ z1, gup_k _ _ (by decide), gup_k _ _ (by decide), gup_k _ _ (by decide), ctM_o _ _ _ _ _ _ _ (by decide) (by decide) (by decide), gup_k _ _ (by decide)]
        · have hu := StP.undo (m := (gup m 24 1 (nI i))) (G := (grp (m.1 48) P hr b)) (P := P) (N := N) (h4.1.kept rfl rfl rfl rfl rfl) ef (by omega) (by omega) b3 hP6 b5 b6 b7
          exact (hu.kept (m' := (gup (gupA (gup (gup (gup (gup (gup (ctM (gup m 24 1 (nI i)) 3 p n b (grp (m.1 48) P hr b) P (-1)) 4 0 (nI k0)) 4 1 (nI k1)) 4 2 (nI k2)) 46 0 (nI 0)) 46 21 (nI i)) 52 (cpP (m.1 52) (fun j => m.1 57 (58 * i + j)) 0 58)) 46 11 (m.1 57 (58 * i + 57)))) rfl rfl rfl rfl rfl).of ep
theorem op_undo {O : gOm} {d : Nat} {m : gMem} (h0 : Inv m) : OpOk O (d + 4) kX6_undo kX7_undo [] m := by
  have hh := h0
  obtain ⟨P, N, lw, hr, a, c, L, lim, h1, h2, h3, h4, h5, h6, h7, h8⟩ := hh
  rcases h1 with ⟨e, -⟩ | ⟨e, -⟩
  · exact op_undo_29 h0 e
  · exact op_undo_35 h0 e
