theorem iR_0 (x : Int32) : iR x 0 = false := by
  simp only [iR, Bool.and_eq_false_iff, decide_eq_false_iff_not]
  omega
theorem cnt_of {c : Int32} (h1 : ¬ c < nI 1) (h4 : ¬ nI 4 < c) : ∃ j, 1 ≤ j ∧ j < 5 ∧ c = nI j := by
  have h0 : ¬ c < 0 := fun q => h1 (Int32.lt_trans q (by decide +kernel))
  obtain ⟨j, hj, e⟩ := iR_of (iR_ng (n := 4) (by omega) h0 h4)
  refine ⟨j, ?_, hj, e⟩
  rcases Nat.eq_zero_or_pos j with z | z
  · rw [e, z] at h1
    exact absurd (by decide +kernel) h1
  · exact z
theorem op_judge_29 {O : gOm} {d : Nat} {m : gMem} {n c r : Int32} (h0 : Inv m) (hT : m.2 0 = 29) : OpOk O (d + 40) kX6_judge kX7_judge [.int n, .int c, .int r] m := by
  have hthr := h0.thr
  have hin0 := h0
  obtain ⟨P, N, lw, hr, aa, cc, L, lim, h1, h2, h3, h4, h5, h6, h7, h8⟩ := h0
  obtain ⟨hP, hP6, hN, hN3, hlw, hl3, hw, hlim, hfs⟩ := id h2
  obtain ⟨t5, t6, t7, tp, tg, tn⟩ : IvT m 29 P N lw := hT ▸ h3
  obtain ⟨⟨s4, sk, st, sa, spl⟩, h11, ok1, ok2, ok3, ok4, ok5⟩ := id h4
  cases hin : iR n N with
  | false =>
    refine ⟨(-1), m, gup m 46 0 (nI 0), ?_, ?_, hthr⟩
    · show Go O (d + 40) kX6_judge _ _ 0 [.ref 0, .int n, .int c, .int r, .null] [] m
      refine go_aload_n dX6_judge_0 rfl ?_
      refine go_iload_n dX6_judge_1 rfl ?_
      refine go_callV1 (K' := kX6_isNews) [_] dX6_judge_2 mX6_116 lX6_isNews rfl (by decide) rfl (by decide) rfl rfl (Nat.le_of_ble_eq_true rfl) (Nat.le_of_ble_eq_true rfl) (c_isNews_29 hT t6 (by omega)) ?_
      refine go_if_ne 10 dX6_judge_5 (by decide) (fun h => absurd h (fun q => q (bI_0.mpr hin))) (fun h5 => ?_)
      refine go_iconst (-1) dX6_judge_8 (by decide +kernel) ?_
      exact go_iret dX6_judge_9 rfl rfl rfl
    · show Go O (d + 40) kX7_judge _ _ 0 [.ref 46, .int n, .int c, .int r, .null, .null, .null, .null, .null] [] m
      refine go_aload_n dX7_judge_0 rfl ?_
      refine go_iconst (nI 0) dX7_judge_1 (by decide +kernel) ?_
      refine go_puti dX7_judge_2 fX7_77 rfl (by decide) (by decide) (by decide) rfl (fun _ _ _ h => by cases h; rfl) (Or.inl rfl) ?_
      refine go_aload_n dX7_judge_5 rfl ?_
      refine go_iload_n dX7_judge_6 rfl ?_
      refine go_callV1 (K' := kX7_noNews) [_] dX7_judge_7 mX7_155 lX7_noNews rfl (by decide) rfl (by decide) rfl rfl (Nat.le_of_ble_eq_true rfl) (Nat.le_of_ble_eq_true rfl) (c_noNews hN (by omega)) ?_
      refine go_if_eq 15 dX7_judge_10 (by decide) (fun h => absurd h (bI_n0.mpr (by rw [hin]; rfl))) (fun h10 => ?_)
      refine go_iconst (-1) dX7_judge_13 (by decide +kernel) ?_
      exact go_iret dX7_judge_14 rfl rfl rfl
  | true =>
  obtain ⟨n, hnN, rfl⟩ := iR_of hin
  rcases Classical.em (∃ j, 1 ≤ j ∧ j < 5 ∧ c = nI j) with ⟨cnt, hc1, hc5, rfl⟩ | hcn
  · obtain ⟨p1, p2⟩ := p10_b cnt hc5
    have f58 : ∀ (R : Option Value) (M0 M' : gMem) (r : Int32), Go O (d + 40) kX7_judge R M' 58 [.ref 46, .int (nI n), .int (nI cnt), .int r, .null, .null, .null, .null, .null] [.int (nI (10 ^ cnt))] M0 → Go O (d + 40) kX7_judge R M' 15 [.ref 46, .int (nI n), .int (nI cnt), .int r, .null, .null, .null, .null, .null] [] M0 := by
      intro R M0 M' r kk
      match cnt, hc1, hc5, kk with
      | 0, hc1, _, _ => exact absurd hc1 (by omega)
      | 1, _, _, kk =>
        refine go_iload_n dX7_judge_15 rfl ?_
        refine go_iconst (nI 1) dX7_judge_16 (by decide +kernel) ?_
        refine go_icmp_ne 25 dX7_judge_17 (by decide) (fun h => absurd h (fun q => q rfl)) (fun h17 => ?_)
        refine go_bipush (nI 10) dX7_judge_20 (by decide +kernel) ?_
        refine go_goto 58 dX7_judge_22 (by decide) ?_
        exact kk
      | 2, _, _, kk =>
        refine go_iload_n dX7_judge_15 rfl ?_
        refine go_iconst (nI 1) dX7_judge_16 (by decide +kernel) ?_
        refine go_icmp_ne 25 dX7_judge_17 (by decide) (fun h17 => ?_) (fun h => absurd h (by decide +kernel))
        refine go_iload_n dX7_judge_25 rfl ?_
        refine go_iconst (nI 2) dX7_judge_26 (by decide +kernel) ?_
        refine go_icmp_ne 35 dX7_judge_27 (by decide) (fun h => absurd h (fun q => q rfl)) (fun h27 => ?_)
        refine go_bipush (nI 100) dX7_judge_30 (by decide +kernel) ?_
        refine go_goto 58 dX7_judge_32 (by decide) ?_
        exact kk
      | 3, _, _, kk =>
        refine go_iload_n dX7_judge_15 rfl ?_
        refine go_iconst (nI 1) dX7_judge_16 (by decide +kernel) ?_
        refine go_icmp_ne 25 dX7_judge_17 (by decide) (fun h17 => ?_) (fun h => absurd h (by decide +kernel))
        refine go_iload_n dX7_judge_25 rfl ?_
        refine go_iconst (nI 2) dX7_judge_26 (by decide +kernel) ?_
        refine go_icmp_ne 35 dX7_judge_27 (by decide) (fun h27 => ?_) (fun h => absurd h (by decide +kernel))
        refine go_iload_n dX7_judge_35 rfl ?_
        refine go_iconst (nI 3) dX7_judge_36 (by decide +kernel) ?_
        refine go_icmp_ne 46 dX7_judge_37 (by decide) (fun h => absurd h (fun q => q rfl)) (fun h37 => ?_)
        refine go_sipush (nI 1000) dX7_judge_40 (by decide +kernel) ?_
        refine go_goto 58 dX7_judge_43 (by decide) ?_
        exact kk
      | 4, _, _, kk =>
        refine go_iload_n dX7_judge_15 rfl ?_
        refine go_iconst (nI 1) dX7_judge_16 (by decide +kernel) ?_
        refine go_icmp_ne 25 dX7_judge_17 (by decide) (fun h17 => ?_) (fun h => absurd h (by decide +kernel))
        refine go_iload_n dX7_judge_25 rfl ?_
        refine go_iconst (nI 2) dX7_judge_26 (by decide +kernel) ?_
        refine go_icmp_ne 35 dX7_judge_27 (by decide) (fun h27 => ?_) (fun h => absurd h (by decide +kernel))
        refine go_iload_n dX7_judge_35 rfl ?_
        refine go_iconst (nI 3) dX7_judge_36 (by decide +kernel) ?_
        refine go_icmp_ne 46 dX7_judge_37 (by decide) (fun h37 => ?_) (fun h => absurd h (by decide +kernel))
        refine go_iload_n dX7_judge_46 rfl ?_
        refine go_iconst (nI 4) dX7_judge_47 (by decide +kernel) ?_
        refine go_icmp_ne 57 dX7_judge_48 (by decide) (fun h => absurd h (fun q => q rfl)) (fun h48 => ?_)
        refine go_sipush (nI 10000) dX7_judge_51 (by decide +kernel) ?_
        refine go_goto 58 dX7_judge_54 (by decide) ?_
        exact kk
      | j + 5, _, hc5, _ => exact absurd hc5 (by omega)
    have ein : (decide ((0 : Int64) ≤ r.toInt64) && decide (r.toInt64 ≤ (nI (10 ^ cnt) - nI 1).toInt64)) = iR r (10 ^ cnt) := iR_in r (by omega)
    cases hir : iR r (10 ^ cnt) with
    | false =>
      refine ⟨(-2), m, gup m 46 0 (nI 0), ?_, ?_, hthr⟩
      · by_cases z : r < 0
        · show Go O (d + 40) kX6_judge _ _ 0 [.ref 0, .int (nI n), .int (nI cnt), .int r, .null] [] m
          refine go_aload_n dX6_judge_0 rfl ?_
          refine go_iload_n dX6_judge_1 rfl ?_
          refine go_callV1 (K' := kX6_isNews) [_] dX6_judge_2 mX6_116 lX6_isNews rfl (by decide) rfl (by decide) rfl rfl (Nat.le_of_ble_eq_true rfl) (Nat.le_of_ble_eq_true rfl) (c_isNews_29 hT t6 (by omega)) ?_
          refine go_if_ne 10 dX6_judge_5 (by decide) (fun h5 => ?_) (fun h => absurd h (bI_n0.mpr hin))
          refine go_iload_n dX6_judge_10 rfl ?_
          refine go_iconst (nI 1) dX6_judge_11 (by decide +kernel) ?_
          refine go_icmp_lt 34 dX6_judge_12 (by decide) (fun h => absurd h (nI_nlt (by omega) (by omega))) (fun h12 => ?_)
          refine go_iload_n dX6_judge_15 rfl ?_
          refine go_iconst (nI 4) dX6_judge_16 (by decide +kernel) ?_
          refine go_icmp_gt 34 dX6_judge_17 (by decide) (fun h => absurd h (nI_nlt (by omega) (by omega))) (fun h17 => ?_)
          refine go_iload_n dX6_judge_20 rfl ?_
          refine go_if_lt 34 dX6_judge_21 (by decide) (fun h21 => ?_) (fun h => absurd (z) h)
          refine go_bipush (-2) dX6_judge_34 (by decide +kernel) ?_
          exact go_iret dX6_judge_36 rfl rfl rfl
        · have z2 : ¬ r < nI (10 ^ cnt) := fun q => by
            have := iR_mid (x := r) (n := 10 ^ cnt) (by omega) z (by rw [Int32.not_le]; exact q)
            rw [hir] at this
            cases this
          show Go O (d + 40) kX6_judge _ _ 0 [.ref 0, .int (nI n), .int (nI cnt), .int r, .null] [] m
          refine go_aload_n dX6_judge_0 rfl ?_
          refine go_iload_n dX6_judge_1 rfl ?_
          refine go_callV1 (K' := kX6_isNews) [_] dX6_judge_2 mX6_116 lX6_isNews rfl (by decide) rfl (by decide) rfl rfl (Nat.le_of_ble_eq_true rfl) (Nat.le_of_ble_eq_true rfl) (c_isNews_29 hT t6 (by omega)) ?_
          refine go_if_ne 10 dX6_judge_5 (by decide) (fun h5 => ?_) (fun h => absurd h (bI_n0.mpr hin))
          refine go_iload_n dX6_judge_10 rfl ?_
          refine go_iconst (nI 1) dX6_judge_11 (by decide +kernel) ?_
          refine go_icmp_lt 34 dX6_judge_12 (by decide) (fun h => absurd h (nI_nlt (by omega) (by omega))) (fun h12 => ?_)
          refine go_iload_n dX6_judge_15 rfl ?_
          refine go_iconst (nI 4) dX6_judge_16 (by decide +kernel) ?_
          refine go_icmp_gt 34 dX6_judge_17 (by decide) (fun h => absurd h (nI_nlt (by omega) (by omega))) (fun h17 => ?_)
          refine go_iload_n dX6_judge_20 rfl ?_
          refine go_if_lt 34 dX6_judge_21 (by decide) (fun h => absurd h (z)) (fun h21 => ?_)
          refine go_iload_n dX6_judge_24 rfl ?_
          refine go_bipush (nI 10) dX6_judge_25 (by decide +kernel) ?_
          refine go_iload_n dX6_judge_27 rfl ?_
          refine go_callS1 (K' := kX6_powerOf) [_, _] dX6_judge_28 mX6_179 lX6_powerOf rfl rfl (Nat.le_of_ble_eq_true rfl) (Nat.le_of_ble_eq_true rfl) (c_powerOf (by omega)) ?_
          refine go_icmp_lt 37 dX6_judge_31 (by decide) (fun h => absurd h (z2)) (fun h31 => ?_)
          refine go_bipush (-2) dX6_judge_34 (by decide +kernel) ?_
          exact go_iret dX6_judge_36 rfl rfl rfl
      · show Go O (d + 40) kX7_judge _ _ 0 [.ref 46, .int (nI n), .int (nI cnt), .int r, .null, .null, .null, .null, .null] [] m
        refine go_aload_n dX7_judge_0 rfl ?_
        refine go_iconst (nI 0) dX7_judge_1 (by decide +kernel) ?_
        refine go_puti dX7_judge_2 fX7_77 rfl (by decide) (by decide) (by decide) rfl (fun _ _ _ h => by cases h; rfl) (Or.inl rfl) ?_
        refine go_aload_n dX7_judge_5 rfl ?_
        refine go_iload_n dX7_judge_6 rfl ?_
        refine go_callV1 (K' := kX7_noNews) [_] dX7_judge_7 mX7_155 lX7_noNews rfl (by decide) rfl (by decide) rfl rfl (Nat.le_of_ble_eq_true rfl) (Nat.le_of_ble_eq_true rfl) (c_noNews hN (by omega)) ?_
        refine go_if_eq 15 dX7_judge_10 (by decide) (fun h10 => ?_) (fun h => absurd (bI_0.mpr (by rw [hin]; rfl)) h)
        refine f58 _ _ _ _ ?_
        refine go_istore (L' := [_, _, _, _, _, _, _, _, _]) dX7_judge_58 (by decide) rfl ?_
        refine go_iload_n dX7_judge_60 rfl ?_
        refine go_i2l dX7_judge_61 rfl ?_
        refine go_lconst 0 dX7_judge_62 (by decide +kernel) ?_
        refine go_iload dX7_judge_63 rfl ?_
        refine go_iconst (nI 1) dX7_judge_65 (by decide +kernel) ?_
        refine go_isub dX7_judge_66 rfl ?_
        refine go_i2l dX7_judge_67 rfl ?_
        refine go_callS1 (K' := kX7_in) [_, _, _] dX7_judge_68 mX7_84 lX7_in rfl rfl (Nat.le_of_ble_eq_true rfl) (Nat.le_of_ble_eq_true rfl) (c_in) ?_
        refine go_if_ne 77 dX7_judge_71 (by decide) (fun h => absurd h (fun q => q (bI_0.mpr (ein.trans hir)))) (fun h71 => ?_)
        refine go_bipush (-2) dX7_judge_74 (by decide +kernel) ?_
        exact go_iret dX7_judge_76 rfl rfl rfl
    | true =>
      obtain ⟨row, hrow, rfl⟩ := iR_of hir
      obtain ⟨l9, el⟩ := hlim n hnN
      obtain ⟨f0, hf0⟩ : ∃ f0, cpP (m.1 60) (m.1 52) 0 58 = f0 := ⟨_, rfl⟩
      have ef0 : PgE (m.1 52) f0 := by rw [← hf0]; exact (cpP_pg _ _).sy
      have okf : PgOk lim N f0 hr := h4.2.2.of ef0
      have hS0 : StP (cpM m 8 3) 8 f0 hr := (h4.1.copy (dst := 8) (by omega)).of ef0
      have hD0 : DyT m 29 P N lw n (m.1 48) (m.1 49 n) := ⟨hT, t5, t6, t7, tp, tg, (tn n hnN).1⟩
      obtain ⟨m1, c1, e1, g1⟩ := c_judgeX_29 (O := O) (d := d + 36) (m := m) (w := m.1 48) (f := f0) (lm := m.1 49 n) (P := P) (N := N) (lw := lw) (n := n) (hr := hr) (cnt := cnt) (row := row) (lim := lim) hP6 hN3 hnN hl3 hw hc5 (by omega) el l9 cnt 0 (cpM m 8 3) f0 hr (by omega) (hD0.kept rfl (cpM_o m (by decide) (by decide) (by decide) (by decide) (by decide)) (cpM_o m (by decide) (by decide) (by decide) (by decide) (by decide)) (cpM_o m (by decide) (by decide) (by decide) (by decide) (by decide)) (cpM_o m (by decide) (by decide) (by decide) (by decide) (by decide))) hS0 okf
      have g : ∀ k, (k < 8 ∨ 12 < k) → m1.1 k = m.1 k := fun k hk => (g1 k hk).trans (cpM_o m (by omega) (by omega) (by omega) (by omega) (by omega))
      have e2 : m1.2 = m.2 := e1.trans rfl
      have g46 := g 46 (by omega)
      have g48 := g 48 (by omega)
      have g49 := g 49 (by omega)
      have g52 := g 52 (by omega)
      have g60 := g 60 (by omega)
      obtain ⟨M, hM⟩ : ∃ M, gup m1 46 0 (nI 0) = M := ⟨_, rfl⟩
      have Mg : ∀ k, k ≠ 46 → M.1 k = m1.1 k := fun k hk => by rw [← hM, gup_k _ _ hk]
      have Mf : ∀ i, i ≠ 0 → M.1 46 i = m.1 46 i := fun i hi => by rw [← hM, gup_i _ _ hi]; exact congrFun g46 i
      obtain ⟨f', c2⟩ := c_judgeM (O := O) (d := d + 36) (m := M) (w := m.1 48) (lm := m.1 49 n) (P := P) (N := N) (lw := lw) (n := n) (cnt := cnt) (row := row) (lim := lim) ((Mf 4 (by decide)).trans hP) hP6 ((Mf 5 (by decide)).trans hN) hN3 hnN ((Mf 6 (by decide)).trans hlw) hl3 ((Mg 48 (by decide)).trans g48) hw (congrFun ((Mg 49 (by decide)).trans g49) n) hc5 (by omega) el l9 cnt 0 f0 hr (by omega) okf
      have F60 : cpP (M.1 60) (M.1 52) 0 58 = f0 := by rw [Mg 60 (by decide), Mg 52 (by decide), g60, g52]; exact hf0
      have lp : ∀ q k, k + q = 58 → Go O (d + 40) kX7_judge (some (.int (jR (m.1 48) (m.1 49 n) P N lw n (fgO row cnt) cnt 0 f0 hr))) (gupA M 60 f') 80 [.ref 46, .int (nI n), .int (nI cnt), .int (nI row), .int (nI (10 ^ cnt)), .int (nI k), .null, .null, .null] [] (gupA M 60 (cpP (M.1 60) (M.1 52) 0 k)) := by
        intro q
        induction q with
        | zero =>
          intro k hk
          obtain rfl : k = 58 := by omega
          rw [F60]
          refine go_iload dX7_judge_80 rfl ?_
          refine go_bipush (nI 58) dX7_judge_82 (by decide +kernel) ?_
          refine go_icmp_ge 107 dX7_judge_84 (by decide) (fun h84 => ?_) (fun h => absurd (nI_le (by omega) (by omega)) h)
          refine go_aload_n dX7_judge_107 rfl ?_
          refine go_geti dX7_judge_108 fX7_137 rfl (by decide) (by decide) (by decide) rfl ((Mf 11 (by decide)).trans h11) ?_
          refine go_istore (L' := [_, _, _, _, _, _, _, _, _]) dX7_judge_111 (by decide) rfl ?_
          refine go_iconst (nI 0) dX7_judge_113 (by decide +kernel) ?_
          refine go_istore (L' := [_, _, _, _, _, _, _, _, _]) dX7_judge_114 (by decide) rfl ?_
          exact c2 _ _
        | succ q ih =>
          intro k hk
          have hi := ih (k + 1) (by omega)
          rw [show cpP (M.1 60) (M.1 52) 0 (k + 1) = upd (cpP (M.1 60) (M.1 52) 0 k) k (M.1 52 k) by rw [cpP, Nat.zero_add]] at hi
          refine go_iload dX7_judge_80 rfl ?_
          refine go_bipush (nI 58) dX7_judge_82 (by decide +kernel) ?_
          refine go_icmp_ge 107 dX7_judge_84 (by decide) (fun h => absurd h (nI_ge (by omega) (by omega))) (fun h84 => ?_)
          refine go_aload_n dX7_judge_87 rfl ?_
          refine go_getc dX7_judge_88 fX7_50 rfl (by decide) (by decide) (by decide) rfl ?_
          refine go_iload dX7_judge_91 rfl ?_
          refine go_aload_n dX7_judge_93 rfl ?_
          refine go_getc dX7_judge_94 fX7_25 rfl (by decide) (by decide) (by decide) rfl ?_
          refine go_iload dX7_judge_97 rfl ?_
          refine go_iald dX7_judge_99 rfl (by decide) rfl (by omega) (by decide) (show _ = M.1 52 k from rfl) ?_
          refine go_iastA dX7_judge_100 rfl (by decide) rfl (by omega) (by decide) ?_
          refine go_iinc_n (L' := [_, _, _, _, _, _, _, _, _]) dX7_judge_101 rfl (by decide) rfl ?_
          refine go_goto 80 dX7_judge_104 (by decide) ?_
          exact hi
      have lp0 := lp 58 0 (by omega)
      rw [show cpP (M.1 60) (M.1 52) 0 0 = M.1 60 from rfl, gupA_self] at lp0
      refine ⟨(jR (m.1 48) (m.1 49 n) P N lw n (fgO row cnt) cnt 0 f0 hr), m1, gupA M 60 f', ?_, ?_, hin0.side (m' := gupA M 60 f') ?_ ?_ (fun k hk => ?_) (fun k a1 a2 => ?_) (fun i a1 a2 a3 a4 a5 => ?_)⟩
      · show Go O (d + 40) kX6_judge _ _ 0 [.ref 0, .int (nI n), .int (nI cnt), .int (nI row), .null] [] m
        refine go_aload_n dX6_judge_0 rfl ?_
        refine go_iload_n dX6_judge_1 rfl ?_
        refine go_callV1 (K' := kX6_isNews) [_] dX6_judge_2 mX6_116 lX6_isNews rfl (by decide) rfl (by decide) rfl rfl (Nat.le_of_ble_eq_true rfl) (Nat.le_of_ble_eq_true rfl) (c_isNews_29 hT t6 (by omega)) ?_
        refine go_if_ne 10 dX6_judge_5 (by decide) (fun h5 => ?_) (fun h => absurd h (bI_n0.mpr hin))
        refine go_iload_n dX6_judge_10 rfl ?_
        refine go_iconst (nI 1) dX6_judge_11 (by decide +kernel) ?_
        refine go_icmp_lt 34 dX6_judge_12 (by decide) (fun h => absurd h (nI_nlt (by omega) (by omega))) (fun h12 => ?_)
        refine go_iload_n dX6_judge_15 rfl ?_
        refine go_iconst (nI 4) dX6_judge_16 (by decide +kernel) ?_
        refine go_icmp_gt 34 dX6_judge_17 (by decide) (fun h => absurd h (nI_nlt (by omega) (by omega))) (fun h17 => ?_)
        refine go_iload_n dX6_judge_20 rfl ?_
        refine go_if_lt 34 dX6_judge_21 (by decide) (fun h => absurd h (nI_pos (by omega))) (fun h21 => ?_)
        refine go_iload_n dX6_judge_24 rfl ?_
        refine go_bipush (nI 10) dX6_judge_25 (by decide +kernel) ?_
        refine go_iload_n dX6_judge_27 rfl ?_
        refine go_callS1 (K' := kX6_powerOf) [_, _] dX6_judge_28 mX6_179 lX6_powerOf rfl rfl (Nat.le_of_ble_eq_true rfl) (Nat.le_of_ble_eq_true rfl) (c_powerOf (by omega)) ?_
        refine go_icmp_lt 37 dX6_judge_31 (by decide) (fun h31 => ?_) (fun h => absurd (nI_lt (by omega) (by omega)) h)
        refine go_aload_n dX6_judge_37 rfl ?_
        refine go_getc dX6_judge_38 fX6_23 rfl (by decide) (by decide) (by decide) rfl ?_
        refine go_aload_n dX6_judge_41 rfl ?_
        refine go_getc dX6_judge_42 fX6_19 rfl (by decide) (by decide) (by decide) rfl ?_
        refine go_callV0 (K' := kX5_copyFrom) [_] dX6_judge_45 mX6_182 lX5_copyFrom rfl (by decide) rfl (by decide) rfl rfl (Nat.le_of_ble_eq_true rfl) (Nat.le_of_ble_eq_true rfl) (c_copyFrom_8_3) ?_
        refine go_iconst (nI 0) dX6_judge_48 (by decide +kernel) ?_
        refine go_istore (L' := [_, _, _, _, _]) dX6_judge_49 (by decide) rfl ?_
        exact c1
      · show Go O (d + 40) kX7_judge _ _ 0 [.ref 46, .int (nI n), .int (nI cnt), .int (nI row), .null, .null, .null, .null, .null] [] m1
        refine go_aload_n dX7_judge_0 rfl ?_
        refine go_iconst (nI 0) dX7_judge_1 (by decide +kernel) ?_
        refine go_puti dX7_judge_2 fX7_77 rfl (by decide) (by decide) (by decide) rfl (fun _ _ _ h => by cases h; rfl) (Or.inl rfl) ?_
        rw [hM]
        refine go_aload_n dX7_judge_5 rfl ?_
        refine go_iload_n dX7_judge_6 rfl ?_
        refine go_callV1 (K' := kX7_noNews) [_] dX7_judge_7 mX7_155 lX7_noNews rfl (by decide) rfl (by decide) rfl rfl (Nat.le_of_ble_eq_true rfl) (Nat.le_of_ble_eq_true rfl) (c_noNews ((Mf 5 (by decide)).trans hN) (by omega)) ?_
        refine go_if_eq 15 dX7_judge_10 (by decide) (fun h10 => ?_) (fun h => absurd (bI_0.mpr (by rw [hin]; rfl)) h)
        refine f58 _ _ _ _ ?_
        refine go_istore (L' := [_, _, _, _, _, _, _, _, _]) dX7_judge_58 (by decide) rfl ?_
        refine go_iload_n dX7_judge_60 rfl ?_
        refine go_i2l dX7_judge_61 rfl ?_
        refine go_lconst 0 dX7_judge_62 (by decide +kernel) ?_
        refine go_iload dX7_judge_63 rfl ?_
        refine go_iconst (nI 1) dX7_judge_65 (by decide +kernel) ?_
        refine go_isub dX7_judge_66 rfl ?_
        refine go_i2l dX7_judge_67 rfl ?_
        refine go_callS1 (K' := kX7_in) [_, _, _] dX7_judge_68 mX7_84 lX7_in rfl rfl (Nat.le_of_ble_eq_true rfl) (Nat.le_of_ble_eq_true rfl) (c_in) ?_
        refine go_if_ne 77 dX7_judge_71 (by decide) (fun h71 => ?_) (fun h => absurd h (bI_n0.mpr (ein.trans hir)))
        refine go_iconst (nI 0) dX7_judge_77 (by decide +kernel) ?_
        refine go_istore (L' := [_, _, _, _, _, _, _, _, _]) dX7_judge_78 (by decide) rfl ?_
        exact lp0
      · show M.2 0 = m.2 0
        rw [← hM]
        exact congrFun e2 0
      · show M.2 1 = m.2 1
        rw [← hM]
        exact congrFun e2 1
      · rw [gupA_k _ _ (by omega), Mg k (by omega)]
        exact g k (by omega)
      · rw [gupA_k _ _ (by omega), Mg k (by omega)]
        exact g k (by omega)
      · rw [gupA_k _ _ (by decide)]
        exact Mf i a1
  · have nc : ∀ j, 1 ≤ j → j < 5 → ¬ c = nI j := fun j a1 a2 e => hcn ⟨j, a1, a2, e⟩
    have ein : (decide ((0 : Int64) ≤ r.toInt64) && decide (r.toInt64 ≤ (nI 0 - nI 1).toInt64)) = false := (iR_in r (by omega)).trans (iR_0 r)
    refine ⟨(-2), m, gup m 46 0 (nI 0), ?_, ?_, hthr⟩
    · by_cases z1 : c < nI 1
      · show Go O (d + 40) kX6_judge _ _ 0 [.ref 0, .int (nI n), .int c, .int r, .null] [] m
        refine go_aload_n dX6_judge_0 rfl ?_
        refine go_iload_n dX6_judge_1 rfl ?_
        refine go_callV1 (K' := kX6_isNews) [_] dX6_judge_2 mX6_116 lX6_isNews rfl (by decide) rfl (by decide) rfl rfl (Nat.le_of_ble_eq_true rfl) (Nat.le_of_ble_eq_true rfl) (c_isNews_29 hT t6 (by omega)) ?_
        refine go_if_ne 10 dX6_judge_5 (by decide) (fun h5 => ?_) (fun h => absurd h (bI_n0.mpr hin))
        refine go_iload_n dX6_judge_10 rfl ?_
        refine go_iconst (nI 1) dX6_judge_11 (by decide +kernel) ?_
        refine go_icmp_lt 34 dX6_judge_12 (by decide) (fun h12 => ?_) (fun h => absurd (z1) h)
        refine go_bipush (-2) dX6_judge_34 (by decide +kernel) ?_
        exact go_iret dX6_judge_36 rfl rfl rfl
      · have z2 : nI 4 < c := Decidable.byContradiction (fun q => hcn (cnt_of z1 q))
        show Go O (d + 40) kX6_judge _ _ 0 [.ref 0, .int (nI n), .int c, .int r, .null] [] m
        refine go_aload_n dX6_judge_0 rfl ?_
        refine go_iload_n dX6_judge_1 rfl ?_
        refine go_callV1 (K' := kX6_isNews) [_] dX6_judge_2 mX6_116 lX6_isNews rfl (by decide) rfl (by decide) rfl rfl (Nat.le_of_ble_eq_true rfl) (Nat.le_of_ble_eq_true rfl) (c_isNews_29 hT t6 (by omega)) ?_
        refine go_if_ne 10 dX6_judge_5 (by decide) (fun h5 => ?_) (fun h => absurd h (bI_n0.mpr hin))
        refine go_iload_n dX6_judge_10 rfl ?_
        refine go_iconst (nI 1) dX6_judge_11 (by decide +kernel) ?_
        refine go_icmp_lt 34 dX6_judge_12 (by decide) (fun h => absurd h (z1)) (fun h12 => ?_)
        refine go_iload_n dX6_judge_15 rfl ?_
        refine go_iconst (nI 4) dX6_judge_16 (by decide +kernel) ?_
        refine go_icmp_gt 34 dX6_judge_17 (by decide) (fun h17 => ?_) (fun h => absurd (z2) h)
        refine go_bipush (-2) dX6_judge_34 (by decide +kernel) ?_
        exact go_iret dX6_judge_36 rfl rfl rfl
    · show Go O (d + 40) kX7_judge _ _ 0 [.ref 46, .int (nI n), .int c, .int r, .null, .null, .null, .null, .null] [] m
      refine go_aload_n dX7_judge_0 rfl ?_
      refine go_iconst (nI 0) dX7_judge_1 (by decide +kernel) ?_
      refine go_puti dX7_judge_2 fX7_77 rfl (by decide) (by decide) (by decide) rfl (fun _ _ _ h => by cases h; rfl) (Or.inl rfl) ?_
      refine go_aload_n dX7_judge_5 rfl ?_
      refine go_iload_n dX7_judge_6 rfl ?_
      refine go_callV1 (K' := kX7_noNews) [_] dX7_judge_7 mX7_155 lX7_noNews rfl (by decide) rfl (by decide) rfl rfl (Nat.le_of_ble_eq_true rfl) (Nat.le_of_ble_eq_true rfl) (c_noNews hN (by omega)) ?_
      refine go_if_eq 15 dX7_judge_10 (by decide) (fun h10 => ?_) (fun h => absurd (bI_0.mpr (by rw [hin]; rfl)) h)
      refine go_iload_n dX7_judge_15 rfl ?_
      refine go_iconst (nI 1) dX7_judge_16 (by decide +kernel) ?_
      refine go_icmp_ne 25 dX7_judge_17 (by decide) (fun h17 => ?_) (fun h => absurd h (nc 1 (by omega) (by omega)))
      refine go_iload_n dX7_judge_25 rfl ?_
      refine go_iconst (nI 2) dX7_judge_26 (by decide +kernel) ?_
      refine go_icmp_ne 35 dX7_judge_27 (by decide) (fun h27 => ?_) (fun h => absurd h (nc 2 (by omega) (by omega)))
      refine go_iload_n dX7_judge_35 rfl ?_
      refine go_iconst (nI 3) dX7_judge_36 (by decide +kernel) ?_
      refine go_icmp_ne 46 dX7_judge_37 (by decide) (fun h37 => ?_) (fun h => absurd h (nc 3 (by omega) (by omega)))
      refine go_iload_n dX7_judge_46 rfl ?_
      refine go_iconst (nI 4) dX7_judge_47 (by decide +kernel) ?_
      refine go_icmp_ne 57 dX7_judge_48 (by decide) (fun h48 => ?_) (fun h => absurd h (nc 4 (by omega) (by omega)))
      refine go_iconst (nI 0) dX7_judge_57 (by decide +kernel) ?_
      refine go_istore (L' := [_, _, _, _, _, _, _, _, _]) dX7_judge_58 (by decide) rfl ?_
      refine go_iload_n dX7_judge_60 rfl ?_
      refine go_i2l dX7_judge_61 rfl ?_
      refine go_lconst 0 dX7_judge_62 (by decide +kernel) ?_
      refine go_iload dX7_judge_63 rfl ?_
      refine go_iconst (nI 1) dX7_judge_65 (by decide +kernel) ?_
      refine go_isub dX7_judge_66 rfl ?_
      refine go_i2l dX7_judge_67 rfl ?_
      refine go_callS1 (K' := kX7_in) [_, _, _] dX7_judge_68 mX7_84 lX7_in rfl rfl (Nat.le_of_ble_eq_true rfl) (Nat.le_of_ble_eq_true rfl) (c_in) ?_
      refine go_if_ne 77 dX7_judge_71 (by decide) (fun h => absurd h (fun q => q (bI_0.mpr ein))) (fun h71 => ?_)
      refine go_bipush (-2) dX7_judge_74 (by decide +kernel) ?_
      exact go_iret dX7_judge_76 rfl rfl rfl
theorem op_judge_35 {O : gOm} {d : Nat} {m : gMem} {n c r : Int32} (h0 : Inv m) (hT : m.2 0 = 35) : OpOk O (d + 40) kX6_judge kX7_judge [.int n, .int c, .int r] m := by
  have hthr := h0.thr
  have hin0 := h0
  obtain ⟨P, N, lw, hr, aa, cc, L, lim, h1, h2, h3, h4, h5, h6, h7, h8⟩ := h0
  obtain ⟨hP, hP6, hN, hN3, hlw, hl3, hw, hlim, hfs⟩ := id h2
  obtain ⟨t5, t6, t7, tp, tg, tn⟩ : IvT m 35 P N lw := hT ▸ h3
  obtain ⟨⟨s4, sk, st, sa, spl⟩, h11, ok1, ok2, ok3, ok4, ok5⟩ := id h4
  cases hin : iR n N with
  | false =>
    refine ⟨(-1), m, gup m 46 0 (nI 0), ?_, ?_, hthr⟩
    · show Go O (d + 40) kX6_judge _ _ 0 [.ref 0, .int n, .int c, .int r, .null] [] m
      refine go_aload_n dX6_judge_0 rfl ?_
      refine go_iload_n dX6_judge_1 rfl ?_
      refine go_callV1 (K' := kX6_isNews) [_] dX6_judge_2 mX6_116 lX6_isNews rfl (by decide) rfl (by decide) rfl rfl (Nat.le_of_ble_eq_true rfl) (Nat.le_of_ble_eq_true rfl) (c_isNews_35 hT t6 (by omega)) ?_
      refine go_if_ne 10 dX6_judge_5 (by decide) (fun h => absurd h (fun q => q (bI_0.mpr hin))) (fun h5 => ?_)
      refine go_iconst (-1) dX6_judge_8 (by decide +kernel) ?_
      exact go_iret dX6_judge_9 rfl rfl rfl
    · show Go O (d + 40) kX7_judge _ _ 0 [.ref 46, .int n, .int c, .int r, .null, .null, .null, .null, .null] [] m
      refine go_aload_n dX7_judge_0 rfl ?_
      refine go_iconst (nI 0) dX7_judge_1 (by decide +kernel) ?_
      refine go_puti dX7_judge_2 fX7_77 rfl (by decide) (by decide) (by decide) rfl (fun _ _ _ h => by cases h; rfl) (Or.inl rfl) ?_
      refine go_aload_n dX7_judge_5 rfl ?_
      refine go_iload_n dX7_judge_6 rfl ?_
      refine go_callV1 (K' := kX7_noNews) [_] dX7_judge_7 mX7_155 lX7_noNews rfl (by decide) rfl (by decide) rfl rfl (Nat.le_of_ble_eq_true rfl) (Nat.le_of_ble_eq_true rfl) (c_noNews hN (by omega)) ?_
      refine go_if_eq 15 dX7_judge_10 (by decide) (fun h => absurd h (bI_n0.mpr (by rw [hin]; rfl))) (fun h10 => ?_)
      refine go_iconst (-1) dX7_judge_13 (by decide +kernel) ?_
      exact go_iret dX7_judge_14 rfl rfl rfl
  | true =>
  obtain ⟨n, hnN, rfl⟩ := iR_of hin
  rcases Classical.em (∃ j, 1 ≤ j ∧ j < 5 ∧ c = nI j) with ⟨cnt, hc1, hc5, rfl⟩ | hcn
  · obtain ⟨p1, p2⟩ := p10_b cnt hc5
    have f58 : ∀ (R : Option Value) (M0 M' : gMem) (r : Int32), Go O (d + 40) kX7_judge R M' 58 [.ref 46, .int (nI n), .int (nI cnt), .int r, .null, .null, .null, .null, .null] [.int (nI (10 ^ cnt))] M0 → Go O (d + 40) kX7_judge R M' 15 [.ref 46, .int (nI n), .int (nI cnt), .int r, .null, .null, .null, .null, .null] [] M0 := by
      intro R M0 M' r kk
      match cnt, hc1, hc5, kk with
      | 0, hc1, _, _ => exact absurd hc1 (by omega)
      | 1, _, _, kk =>
        refine go_iload_n dX7_judge_15 rfl ?_
        refine go_iconst (nI 1) dX7_judge_16 (by decide +kernel) ?_
        refine go_icmp_ne 25 dX7_judge_17 (by decide) (fun h => absurd h (fun q => q rfl)) (fun h17 => ?_)
        refine go_bipush (nI 10) dX7_judge_20 (by decide +kernel) ?_
        refine go_goto 58 dX7_judge_22 (by decide) ?_
        exact kk
      | 2, _, _, kk =>
        refine go_iload_n dX7_judge_15 rfl ?_
        refine go_iconst (nI 1) dX7_judge_16 (by decide +kernel) ?_
        refine go_icmp_ne 25 dX7_judge_17 (by decide) (fun h17 => ?_) (fun h => absurd h (by decide +kernel))
        refine go_iload_n dX7_judge_25 rfl ?_
        refine go_iconst (nI 2) dX7_judge_26 (by decide +kernel) ?_
        refine go_icmp_ne 35 dX7_judge_27 (by decide) (fun h => absurd h (fun q => q rfl)) (fun h27 => ?_)
        refine go_bipush (nI 100) dX7_judge_30 (by decide +kernel) ?_
        refine go_goto 58 dX7_judge_32 (by decide) ?_
        exact kk
      | 3, _, _, kk =>
        refine go_iload_n dX7_judge_15 rfl ?_
        refine go_iconst (nI 1) dX7_judge_16 (by decide +kernel) ?_
        refine go_icmp_ne 25 dX7_judge_17 (by decide) (fun h17 => ?_) (fun h => absurd h (by decide +kernel))
        refine go_iload_n dX7_judge_25 rfl ?_
        refine go_iconst (nI 2) dX7_judge_26 (by decide +kernel) ?_
        refine go_icmp_ne 35 dX7_judge_27 (by decide) (fun h27 => ?_) (fun h => absurd h (by decide +kernel))
        refine go_iload_n dX7_judge_35 rfl ?_
        refine go_iconst (nI 3) dX7_judge_36 (by decide +kernel) ?_
        refine go_icmp_ne 46 dX7_judge_37 (by decide) (fun h => absurd h (fun q => q rfl)) (fun h37 => ?_)
        refine go_sipush (nI 1000) dX7_judge_40 (by decide +kernel) ?_
        refine go_goto 58 dX7_judge_43 (by decide) ?_
        exact kk
      | 4, _, _, kk =>
        refine go_iload_n dX7_judge_15 rfl ?_
        refine go_iconst (nI 1) dX7_judge_16 (by decide +kernel) ?_
        refine go_icmp_ne 25 dX7_judge_17 (by decide) (fun h17 => ?_) (fun h => absurd h (by decide +kernel))
        refine go_iload_n dX7_judge_25 rfl ?_
        refine go_iconst (nI 2) dX7_judge_26 (by decide +kernel) ?_
        refine go_icmp_ne 35 dX7_judge_27 (by decide) (fun h27 => ?_) (fun h => absurd h (by decide +kernel))
        refine go_iload_n dX7_judge_35 rfl ?_
        refine go_iconst (nI 3) dX7_judge_36 (by decide +kernel) ?_
        refine go_icmp_ne 46 dX7_judge_37 (by decide) (fun h37 => ?_) (fun h => absurd h (by decide +kernel))
        refine go_iload_n dX7_judge_46 rfl ?_
        refine go_iconst (nI 4) dX7_judge_47 (by decide +kernel) ?_
        refine go_icmp_ne 57 dX7_judge_48 (by decide) (fun h => absurd h (fun q => q rfl)) (fun h48 => ?_)
        refine go_sipush (nI 10000) dX7_judge_51 (by decide +kernel) ?_
        refine go_goto 58 dX7_judge_54 (by decide) ?_
        exact kk
      | j + 5, _, hc5, _ => exact absurd hc5 (by omega)
    have ein : (decide ((0 : Int64) ≤ r.toInt64) && decide (r.toInt64 ≤ (nI (10 ^ cnt) - nI 1).toInt64)) = iR r (10 ^ cnt) := iR_in r (by omega)
    cases hir : iR r (10 ^ cnt) with
    | false =>
      refine ⟨(-2), m, gup m 46 0 (nI 0), ?_, ?_, hthr⟩
      · by_cases z : r < 0
        · show Go O (d + 40) kX6_judge _ _ 0 [.ref 0, .int (nI n), .int (nI cnt), .int r, .null] [] m
          refine go_aload_n dX6_judge_0 rfl ?_
          refine go_iload_n dX6_judge_1 rfl ?_
          refine go_callV1 (K' := kX6_isNews) [_] dX6_judge_2 mX6_116 lX6_isNews rfl (by decide) rfl (by decide) rfl rfl (Nat.le_of_ble_eq_true rfl) (Nat.le_of_ble_eq_true rfl) (c_isNews_35 hT t6 (by omega)) ?_
          refine go_if_ne 10 dX6_judge_5 (by decide) (fun h5 => ?_) (fun h => absurd h (bI_n0.mpr hin))
          refine go_iload_n dX6_judge_10 rfl ?_
          refine go_iconst (nI 1) dX6_judge_11 (by decide +kernel) ?_
          refine go_icmp_lt 34 dX6_judge_12 (by decide) (fun h => absurd h (nI_nlt (by omega) (by omega))) (fun h12 => ?_)
          refine go_iload_n dX6_judge_15 rfl ?_
          refine go_iconst (nI 4) dX6_judge_16 (by decide +kernel) ?_
          refine go_icmp_gt 34 dX6_judge_17 (by decide) (fun h => absurd h (nI_nlt (by omega) (by omega))) (fun h17 => ?_)
          refine go_iload_n dX6_judge_20 rfl ?_
          refine go_if_lt 34 dX6_judge_21 (by decide) (fun h21 => ?_) (fun h => absurd (z) h)
          refine go_bipush (-2) dX6_judge_34 (by decide +kernel) ?_
          exact go_iret dX6_judge_36 rfl rfl rfl
        · have z2 : ¬ r < nI (10 ^ cnt) := fun q => by
            have := iR_mid (x := r) (n := 10 ^ cnt) (by omega) z (by rw [Int32.not_le]; exact q)
            rw [hir] at this
            cases this
          show Go O (d + 40) kX6_judge _ _ 0 [.ref 0, .int (nI n), .int (nI cnt), .int r, .null] [] m
          refine go_aload_n dX6_judge_0 rfl ?_
          refine go_iload_n dX6_judge_1 rfl ?_
          refine go_callV1 (K' := kX6_isNews) [_] dX6_judge_2 mX6_116 lX6_isNews rfl (by decide) rfl (by decide) rfl rfl (Nat.le_of_ble_eq_true rfl) (Nat.le_of_ble_eq_true rfl) (c_isNews_35 hT t6 (by omega)) ?_
          refine go_if_ne 10 dX6_judge_5 (by decide) (fun h5 => ?_) (fun h => absurd h (bI_n0.mpr hin))
          refine go_iload_n dX6_judge_10 rfl ?_
          refine go_iconst (nI 1) dX6_judge_11 (by decide +kernel) ?_
          refine go_icmp_lt 34 dX6_judge_12 (by decide) (fun h => absurd h (nI_nlt (by omega) (by omega))) (fun h12 => ?_)
          refine go_iload_n dX6_judge_15 rfl ?_
          refine go_iconst (nI 4) dX6_judge_16 (by decide +kernel) ?_
          refine go_icmp_gt 34 dX6_judge_17 (by decide) (fun h => absurd h (nI_nlt (by omega) (by omega))) (fun h17 => ?_)
          refine go_iload_n dX6_judge_20 rfl ?_
          refine go_if_lt 34 dX6_judge_21 (by decide) (fun h => absurd h (z)) (fun h21 => ?_)
          refine go_iload_n dX6_judge_24 rfl ?_
          refine go_bipush (nI 10) dX6_judge_25 (by decide +kernel) ?_
          refine go_iload_n dX6_judge_27 rfl ?_
          refine go_callS1 (K' := kX6_powerOf) [_, _] dX6_judge_28 mX6_179 lX6_powerOf rfl rfl (Nat.le_of_ble_eq_true rfl) (Nat.le_of_ble_eq_true rfl) (c_powerOf (by omega)) ?_
          refine go_icmp_lt 37 dX6_judge_31 (by decide) (fun h => absurd h (z2)) (fun h31 => ?_)
          refine go_bipush (-2) dX6_judge_34 (by decide +kernel) ?_
          exact go_iret dX6_judge_36 rfl rfl rfl
      · show Go O (d + 40) kX7_judge _ _ 0 [.ref 46, .int (nI n), .int (nI cnt), .int r, .null, .null, .null, .null, .null] [] m
        refine go_aload_n dX7_judge_0 rfl ?_
        refine go_iconst (nI 0) dX7_judge_1 (by decide +kernel) ?_
        refine go_puti dX7_judge_2 fX7_77 rfl (by decide) (by decide) (by decide) rfl (fun _ _ _ h => by cases h; rfl) (Or.inl rfl) ?_
        refine go_aload_n dX7_judge_5 rfl ?_
        refine go_iload_n dX7_judge_6 rfl ?_
        refine go_callV1 (K' := kX7_noNews) [_] dX7_judge_7 mX7_155 lX7_noNews rfl (by decide) rfl (by decide) rfl rfl (Nat.le_of_ble_eq_true rfl) (Nat.le_of_ble_eq_true rfl) (c_noNews hN (by omega)) ?_
        refine go_if_eq 15 dX7_judge_10 (by decide) (fun h10 => ?_) (fun h => absurd (bI_0.mpr (by rw [hin]; rfl)) h)
        refine f58 _ _ _ _ ?_
        refine go_istore (L' := [_, _, _, _, _, _, _, _, _]) dX7_judge_58 (by decide) rfl ?_
        refine go_iload_n dX7_judge_60 rfl ?_
        refine go_i2l dX7_judge_61 rfl ?_
        refine go_lconst 0 dX7_judge_62 (by decide +kernel) ?_
        refine go_iload dX7_judge_63 rfl ?_
        refine go_iconst (nI 1) dX7_judge_65 (by decide +kernel) ?_
        refine go_isub dX7_judge_66 rfl ?_
        refine go_i2l dX7_judge_67 rfl ?_
        refine go_callS1 (K' := kX7_in) [_, _, _] dX7_judge_68 mX7_84 lX7_in rfl rfl (Nat.le_of_ble_eq_true rfl) (Nat.le_of_ble_eq_true rfl) (c_in) ?_
        refine go_if_ne 77 dX7_judge_71 (by decide) (fun h => absurd h (fun q => q (bI_0.mpr (ein.trans hir)))) (fun h71 => ?_)
        refine go_bipush (-2) dX7_judge_74 (by decide +kernel) ?_
        exact go_iret dX7_judge_76 rfl rfl rfl
    | true =>
      obtain ⟨row, hrow, rfl⟩ := iR_of hir
      obtain ⟨l9, el⟩ := hlim n hnN
      obtain ⟨f0, hf0⟩ : ∃ f0, cpP (m.1 60) (m.1 52) 0 58 = f0 := ⟨_, rfl⟩
      have ef0 : PgE (m.1 52) f0 := by rw [← hf0]; exact (cpP_pg _ _).sy
      have okf : PgOk lim N f0 hr := h4.2.2.of ef0
      have hS0 : StP (cpM m 8 3) 8 f0 hr := (h4.1.copy (dst := 8) (by omega)).of ef0
      have hD0 : DyT m 35 P N lw n (m.1 48) (m.1 49 n) := ⟨hT, t5, t6, t7, tp, tg, (tn n hnN).1⟩
      obtain ⟨m1, c1, e1, g1⟩ := c_judgeX_35 (O := O) (d := d + 36) (m := m) (w := m.1 48) (f := f0) (lm := m.1 49 n) (P := P) (N := N) (lw := lw) (n := n) (hr := hr) (cnt := cnt) (row := row) (lim := lim) hP6 hN3 hnN hl3 hw hc5 (by omega) el l9 cnt 0 (cpM m 8 3) f0 hr (by omega) (hD0.kept rfl (cpM_o m (by decide) (by decide) (by decide) (by decide) (by decide)) (cpM_o m (by decide) (by decide) (by decide) (by decide) (by decide)) (cpM_o m (by decide) (by decide) (by decide) (by decide) (by decide)) (cpM_o m (by decide) (by decide) (by decide) (by decide) (by decide))) hS0 okf
      have g : ∀ k, (k < 8 ∨ 12 < k) → m1.1 k = m.1 k := fun k hk => (g1 k hk).trans (cpM_o m (by omega) (by omega) (by omega) (by omega) (by omega))
      have e2 : m1.2 = m.2 := e1.trans rfl
      have g46 := g 46 (by omega)
      have g48 := g 48 (by omega)
      have g49 := g 49 (by omega)
      have g52 := g 52 (by omega)
      have g60 := g 60 (by omega)
      obtain ⟨M, hM⟩ : ∃ M, gup m1 46 0 (nI 0) = M := ⟨_, rfl⟩
      have Mg : ∀ k, k ≠ 46 → M.1 k = m1.1 k := fun k hk => by rw [← hM, gup_k _ _ hk]
      have Mf : ∀ i, i ≠ 0 → M.1 46 i = m.1 46 i := fun i hi => by rw [← hM, gup_i _ _ hi]; exact congrFun g46 i
      obtain ⟨f', c2⟩ := c_judgeM (O := O) (d := d + 36) (m := M) (w := m.1 48) (lm := m.1 49 n) (P := P) (N := N) (lw := lw) (n := n) (cnt := cnt) (row := row) (lim := lim) ((Mf 4 (by decide)).trans hP) hP6 ((Mf 5 (by decide)).trans hN) hN3 hnN ((Mf 6 (by decide)).trans hlw) hl3 ((Mg 48 (by decide)).trans g48) hw (congrFun ((Mg 49 (by decide)).trans g49) n) hc5 (by omega) el l9 cnt 0 f0 hr (by omega) okf
      have F60 : cpP (M.1 60) (M.1 52) 0 58 = f0 := by rw [Mg 60 (by decide), Mg 52 (by decide), g60, g52]; exact hf0
      have lp : ∀ q k, k + q = 58 → Go O (d + 40) kX7_judge (some (.int (jR (m.1 48) (m.1 49 n) P N lw n (fgO row cnt) cnt 0 f0 hr))) (gupA M 60 f') 80 [.ref 46, .int (nI n), .int (nI cnt), .int (nI row), .int (nI (10 ^ cnt)), .int (nI k), .null, .null, .null] [] (gupA M 60 (cpP (M.1 60) (M.1 52) 0 k)) := by
        intro q
        induction q with
        | zero =>
          intro k hk
          obtain rfl : k = 58 := by omega
          rw [F60]
          refine go_iload dX7_judge_80 rfl ?_
          refine go_bipush (nI 58) dX7_judge_82 (by decide +kernel) ?_
          refine go_icmp_ge 107 dX7_judge_84 (by decide) (fun h84 => ?_) (fun h => absurd (nI_le (by omega) (by omega)) h)
          refine go_aload_n dX7_judge_107 rfl ?_
          refine go_geti dX7_judge_108 fX7_137 rfl (by decide) (by decide) (by decide) rfl ((Mf 11 (by decide)).trans h11) ?_
          refine go_istore (L' := [_, _, _, _, _, _, _, _, _]) dX7_judge_111 (by decide) rfl ?_
          refine go_iconst (nI 0) dX7_judge_113 (by decide +kernel) ?_
          refine go_istore (L' := [_, _, _, _, _, _, _, _, _]) dX7_judge_114 (by decide) rfl ?_
          exact c2 _ _
        | succ q ih =>
          intro k hk
          have hi := ih (k + 1) (by omega)
          rw [show cpP (M.1 60) (M.1 52) 0 (k + 1) = upd (cpP (M.1 60) (M.1 52) 0 k) k (M.1 52 k) by rw [cpP, Nat.zero_add]] at hi
          refine go_iload dX7_judge_80 rfl ?_
          refine go_bipush (nI 58) dX7_judge_82 (by decide +kernel) ?_
          refine go_icmp_ge 107 dX7_judge_84 (by decide) (fun h => absurd h (nI_ge (by omega) (by omega))) (fun h84 => ?_)
          refine go_aload_n dX7_judge_87 rfl ?_
          refine go_getc dX7_judge_88 fX7_50 rfl (by decide) (by decide) (by decide) rfl ?_
          refine go_iload dX7_judge_91 rfl ?_
          refine go_aload_n dX7_judge_93 rfl ?_
          refine go_getc dX7_judge_94 fX7_25 rfl (by decide) (by decide) (by decide) rfl ?_
          refine go_iload dX7_judge_97 rfl ?_
          refine go_iald dX7_judge_99 rfl (by decide) rfl (by omega) (by decide) (show _ = M.1 52 k from rfl) ?_
          refine go_iastA dX7_judge_100 rfl (by decide) rfl (by omega) (by decide) ?_
          refine go_iinc_n (L' := [_, _, _, _, _, _, _, _, _]) dX7_judge_101 rfl (by decide) rfl ?_
          refine go_goto 80 dX7_judge_104 (by decide) ?_
          exact hi
      have lp0 := lp 58 0 (by omega)
      rw [show cpP (M.1 60) (M.1 52) 0 0 = M.1 60 from rfl, gupA_self] at lp0
      refine ⟨(jR (m.1 48) (m.1 49 n) P N lw n (fgO row cnt) cnt 0 f0 hr), m1, gupA M 60 f', ?_, ?_, hin0.side (m' := gupA M 60 f') ?_ ?_ (fun k hk => ?_) (fun k a1 a2 => ?_) (fun i a1 a2 a3 a4 a5 => ?_)⟩
      · show Go O (d + 40) kX6_judge _ _ 0 [.ref 0, .int (nI n), .int (nI cnt), .int (nI row), .null] [] m
        refine go_aload_n dX6_judge_0 rfl ?_
        refine go_iload_n dX6_judge_1 rfl ?_
        refine go_callV1 (K' := kX6_isNews) [_] dX6_judge_2 mX6_116 lX6_isNews rfl (by decide) rfl (by decide) rfl rfl (Nat.le_of_ble_eq_true rfl) (Nat.le_of_ble_eq_true rfl) (c_isNews_35 hT t6 (by omega)) ?_
        refine go_if_ne 10 dX6_judge_5 (by decide) (fun h5 => ?_) (fun h => absurd h (bI_n0.mpr hin))
        refine go_iload_n dX6_judge_10 rfl ?_
        refine go_iconst (nI 1) dX6_judge_11 (by decide +kernel) ?_
        refine go_icmp_lt 34 dX6_judge_12 (by decide) (fun h => absurd h (nI_nlt (by omega) (by omega))) (fun h12 => ?_)
        refine go_iload_n dX6_judge_15 rfl ?_
        refine go_iconst (nI 4) dX6_judge_16 (by decide +kernel) ?_
        refine go_icmp_gt 34 dX6_judge_17 (by decide) (fun h => absurd h (nI_nlt (by omega) (by omega))) (fun h17 => ?_)
        refine go_iload_n dX6_judge_20 rfl ?_
        refine go_if_lt 34 dX6_judge_21 (by decide) (fun h => absurd h (nI_pos (by omega))) (fun h21 => ?_)
        refine go_iload_n dX6_judge_24 rfl ?_
        refine go_bipush (nI 10) dX6_judge_25 (by decide +kernel) ?_
        refine go_iload_n dX6_judge_27 rfl ?_
        refine go_callS1 (K' := kX6_powerOf) [_, _] dX6_judge_28 mX6_179 lX6_powerOf rfl rfl (Nat.le_of_ble_eq_true rfl) (Nat.le_of_ble_eq_true rfl) (c_powerOf (by omega)) ?_
        refine go_icmp_lt 37 dX6_judge_31 (by decide) (fun h31 => ?_) (fun h => absurd (nI_lt (by omega) (by omega)) h)
        refine go_aload_n dX6_judge_37 rfl ?_
        refine go_getc dX6_judge_38 fX6_23 rfl (by decide) (by decide) (by decide) rfl ?_
        refine go_aload_n dX6_judge_41 rfl ?_
        refine go_getc dX6_judge_42 fX6_19 rfl (by decide) (by decide) (by decide) rfl ?_
        refine go_callV0 (K' := kX5_copyFrom) [_] dX6_judge_45 mX6_182 lX5_copyFrom rfl (by decide) rfl (by decide) rfl rfl (Nat.le_of_ble_eq_true rfl) (Nat.le_of_ble_eq_true rfl) (c_copyFrom_8_3) ?_
        refine go_iconst (nI 0) dX6_judge_48 (by decide +kernel) ?_
        refine go_istore (L' := [_, _, _, _, _]) dX6_judge_49 (by decide) rfl ?_
        exact c1
      · show Go O (d + 40) kX7_judge _ _ 0 [.ref 46, .int (nI n), .int (nI cnt), .int (nI row), .null, .null, .null, .null, .null] [] m1
        refine go_aload_n dX7_judge_0 rfl ?_
        refine go_iconst (nI 0) dX7_judge_1 (by decide +kernel) ?_
        refine go_puti dX7_judge_2 fX7_77 rfl (by decide) (by decide) (by decide) rfl (fun _ _ _ h => by cases h; rfl) (Or.inl rfl) ?_
        rw [hM]
        refine go_aload_n dX7_judge_5 rfl ?_
        refine go_iload_n dX7_judge_6 rfl ?_
        refine go_callV1 (K' := kX7_noNews) [_] dX7_judge_7 mX7_155 lX7_noNews rfl (by decide) rfl (by decide) rfl rfl (Nat.le_of_ble_eq_true rfl) (Nat.le_of_ble_eq_true rfl) (c_noNews ((Mf 5 (by decide)).trans hN) (by omega)) ?_
        refine go_if_eq 15 dX7_judge_10 (by decide) (fun h10 => ?_) (fun h => absurd (bI_0.mpr (by rw [hin]; rfl)) h)
        refine f58 _ _ _ _ ?_
        refine go_istore (L' := [_, _, _, _, _, _, _, _, _]) dX7_judge_58 (by decide) rfl ?_
        refine go_iload_n dX7_judge_60 rfl ?_
        refine go_i2l dX7_judge_61 rfl ?_
        refine go_lconst 0 dX7_judge_62 (by decide +kernel) ?_
        refine go_iload dX7_judge_63 rfl ?_
        refine go_iconst (nI 1) dX7_judge_65 (by decide +kernel) ?_
        refine go_isub dX7_judge_66 rfl ?_
        refine go_i2l dX7_judge_67 rfl ?_
        refine go_callS1 (K' := kX7_in) [_, _, _] dX7_judge_68 mX7_84 lX7_in rfl rfl (Nat.le_of_ble_eq_true rfl) (Nat.le_of_ble_eq_true rfl) (c_in) ?_
        refine go_if_ne 77 dX7_judge_71 (by decide) (fun h71 => ?_) (fun h => absurd h (bI_n0.mpr (ein.trans hir)))
        refine go_iconst (nI 0) dX7_judge_77 (by decide +kernel) ?_
        refine go_istore (L' := [_, _, _, _, _, _, _, _, _]) dX7_judge_78 (by decide) rfl ?_
        exact lp0
      · show M.2 0 = m.2 0
        rw [← hM]
        exact congrFun e2 0
      · show M.2 1 = m.2 1
        rw [← hM]
        exact congrFun e2 1
      · rw [gupA_k _ _ (by omega), Mg k (by omega)]
        exact g k (by omega)
      · rw [gupA_k _ _ (by omega), Mg k (by omega)]
        exact g k (by omega)
      · rw [gupA_k _ _ (by decide)]
        exact Mf i a1
  · have nc : ∀ j, 1 ≤ j → j < 5 → ¬ c = nI j := fun j a1 a2 e => hcn ⟨j, a1, a2, e⟩
    have ein : (decide ((0 : Int64) ≤ r.toInt64) && decide (r.toInt64 ≤ (nI 0 - nI 1).toInt64)) = false := (iR_in r (by omega)).trans (iR_0 r)
    refine ⟨(-2), m, gup m 46 0 (nI 0), ?_, ?_, hthr⟩
    · by_cases z1 : c < nI 1
      · show Go O (d + 40) kX6_judge _ _ 0 [.ref 0, .int (nI n), .int c, .int r, .null] [] m
        refine go_aload_n dX6_judge_0 rfl ?_
        refine go_iload_n dX6_judge_1 rfl ?_
        refine go_callV1 (K' := kX6_isNews) [_] dX6_judge_2 mX6_116 lX6_isNews rfl (by decide) rfl (by decide) rfl rfl (Nat.le_of_ble_eq_true rfl) (Nat.le_of_ble_eq_true rfl) (c_isNews_35 hT t6 (by omega)) ?_
        refine go_if_ne 10 dX6_judge_5 (by decide) (fun h5 => ?_) (fun h => absurd h (bI_n0.mpr hin))
        refine go_iload_n dX6_judge_10 rfl ?_
        refine go_iconst (nI 1) dX6_judge_11 (by decide +kernel) ?_
        refine go_icmp_lt 34 dX6_judge_12 (by decide) (fun h12 => ?_) (fun h => absurd (z1) h)
        refine go_bipush (-2) dX6_judge_34 (by decide +kernel) ?_
        exact go_iret dX6_judge_36 rfl rfl rfl
      · have z2 : nI 4 < c := Decidable.byContradiction (fun q => hcn (cnt_of z1 q))
        show Go O (d + 40) kX6_judge _ _ 0 [.ref 0, .int (nI n), .int c, .int r, .null] [] m
        refine go_aload_n dX6_judge_0 rfl ?_
        refine go_iload_n dX6_judge_1 rfl ?_
        refine go_callV1 (K' := kX6_isNews) [_] dX6_judge_2 mX6_116 lX6_isNews rfl (by decide) rfl (by decide) rfl rfl (Nat.le_of_ble_eq_true rfl) (Nat.le_of_ble_eq_true rfl) (c_isNews_35 hT t6 (by omega)) ?_
        refine go_if_ne 10 dX6_judge_5 (by decide) (fun h5 => ?_) (fun h => absurd h (bI_n0.mpr hin))
        refine go_iload_n dX6_judge_10 rfl ?_
        refine go_iconst (nI 1) dX6_judge_11 (by decide +kernel) ?_
        refine go_icmp_lt 34 dX6_judge_12 (by decide) (fun h => absurd h (z1)) (fun h12 => ?_)
        refine go_iload_n dX6_judge_15 rfl ?_
        refine go_iconst (nI 4) dX6_judge_16 (by decide +kernel) ?_
        refine go_icmp_gt 34 dX6_judge_17 (by decide) (fun h17 => ?_) (fun h => absurd (z2) h)
        refine go_bipush (-2) dX6_judge_34 (by decide +kernel) ?_
        exact go_iret dX6_judge_36 rfl rfl rfl
    · show Go O (d + 40) kX7_judge _ _ 0 [.ref 46, .int (nI n), .int c, .int r, .null, .null, .null, .null, .null] [] m
      refine go_aload_n dX7_judge_0 rfl ?_
      refine go_iconst (nI 0) dX7_judge_1 (by decide +kernel) ?_
      refine go_puti dX7_judge_2 fX7_77 rfl (by decide) (by decide) (by decide) rfl (fun _ _ _ h => by cases h; rfl) (Or.inl rfl) ?_
      refine go_aload_n dX7_judge_5 rfl ?_
      refine go_iload_n dX7_judge_6 rfl ?_
      refine go_callV1 (K' := kX7_noNews) [_] dX7_judge_7 mX7_155 lX7_noNews rfl (by decide) rfl (by decide) rfl rfl (Nat.le_of_ble_eq_true rfl) (Nat.le_of_ble_eq_true rfl) (c_noNews hN (by omega)) ?_
      refine go_if_eq 15 dX7_judge_10 (by decide) (fun h10 => ?_) (fun h => absurd (bI_0.mpr (by rw [hin]; rfl)) h)
      refine go_iload_n dX7_judge_15 rfl ?_
      refine go_iconst (nI 1) dX7_judge_16 (by decide +kernel) ?_
      refine go_icmp_ne 25 dX7_judge_17 (by decide) (fun h17 => ?_) (fun h => absurd h (nc 1 (by omega) (by omega)))
      refine go_iload_n dX7_judge_25 rfl ?_
      refine go_iconst (nI 2) dX7_judge_26 (by decide +kernel) ?_
      refine go_icmp_ne 35 dX7_judge_27 (by decide) (fun h27 => ?_) (fun h => absurd h (nc 2 (by omega) (by omega)))
      refine go_iload_n dX7_judge_35 rfl ?_
      refine go_iconst (nI 3) dX7_judge_36 (by decide +kernel) ?_
      refine go_icmp_ne 46 dX7_judge_37 (by decide) (fun h37 => ?_) (fun h => absurd h (nc 3 (by omega) (by omega)))
      refine go_iload_n dX7_judge_46 rfl ?_
      refine go_iconst (nI 4) dX7_judge_47 (by decide +kernel) ?_
      refine go_icmp_ne 57 dX7_judge_48 (by decide) (fun h48 => ?_) (fun h => absurd h (nc 4 (by omega) (by omega)))
      refine go_iconst (nI 0) dX7_judge_57 (by decide +kernel) ?_
      refine go_istore (L' := [_, _, _, _, _, _, _, _, _]) dX7_judge_58 (by decide) rfl ?_
      refine go_iload_n dX7_judge_60 rfl ?_
      refine go_i2l dX7_judge_61 rfl ?_
      refine go_lconst 0 dX7_judge_62 (by decide +kernel) ?_
      refine go_iload dX7_judge_63 rfl ?_
      refine go_iconst (nI 1) dX7_judge_65 (by decide +kernel) ?_
      refine go_isub dX7_judge_66 rfl ?_
      refine go_i2l dX7_judge_67 rfl ?_
      refine go_callS1 (K' := kX7_in) [_, _, _] dX7_judge_68 mX7_84 lX7_in rfl rfl (Nat.le_of_ble_eq_true rfl) (Nat.le_of_ble_eq_true rfl) (c_in) ?_
      refine go_if_ne 77 dX7_judge_71 (by decide) (fun h => absurd h (fun q => q (bI_0.mpr ein))) (fun h71 => ?_)
      refine go_bipush (-2) dX7_judge_74 (by decide +kernel) ?_
      exact go_iret dX7_judge_76 rfl rfl rfl
theorem op_judge {O : gOm} {d : Nat} {m : gMem} {n c r : Int32} (h0 : Inv m) : OpOk O (d + 40) kX6_judge kX7_judge [.int n, .int c, .int r] m := by
  have hh := h0
  obtain ⟨P, N, lw, hr, aa, cc, L, lim, h1, h2, h3, h4, h5, h6, h7, h8⟩ := hh
  rcases h1 with ⟨e, -⟩ | ⟨e, -⟩
  · exact op_judge_29 h0 e
  · exact op_judge_35 h0 e
