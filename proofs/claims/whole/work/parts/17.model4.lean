theorem c_tellIt_52 {O : gOm} {d : Nat} {m : gMem} {P N h p n a : Nat} (hP : m.1 46 4 = nI P) (hP6 : P ≤ 6) (hN : m.1 46 5 = nI N) (hN3 : N ≤ 3) (hh : h < 6) (hp : p < P) (hn : n < 3) (hav : m.1 48 (6 * p + h) = nI a) (ha : a < 3) : Ca O (d + 1) kX7_tellIt [.ref 46, .ref 52, .int (nI h), .int (nI p), .int (nI n)] none m (gupA m 52 (tlP (m.1 52) n p a (grp (m.1 48) P h a) P N)) := by
  have hg := grp_64 (m.1 48) h a hP6
  have key : ∀ c q, q + c = P → Go O (d + 1) kX7_tellIt none (gupA m 52 (tlP (m.1 52) n p a (grp (m.1 48) P h a) P N)) 60 [.ref 46, .ref 52, .int (nI h), .int (nI p), .int (nI n), .int (nI a), .int (nI (grp (m.1 48) P h a)), .int (nI q)] [] (gupA m 52 (atA (tl3 (m.1 52) n p (grp (m.1 48) P h a)) n (grp (m.1 48) P h a) q)) := by
    intro c
    induction c with
    | zero =>
      intro q hq
      obtain rfl : q = P := by omega
      refine go_iload dX7_tellIt_60 rfl ?_
      refine go_aload_n dX7_tellIt_62 rfl ?_
      refine go_geti dX7_tellIt_63 fX7_81 rfl (by decide) (by decide) (by decide) rfl hP ?_
      refine go_icmp_ge 106 dX7_tellIt_66 (by decide) (fun h66 => ?_) (fun h => absurd (nI_le (by omega) (by omega)) h)
      refine go_aload_n dX7_tellIt_106 rfl ?_
      refine go_bipush (nI 42) dX7_tellIt_107 (by decide +kernel) ?_
      refine go_iconst (nI 3) dX7_tellIt_109 (by decide +kernel) ?_
      refine go_iload dX7_tellIt_110 rfl ?_
      first | refine go_imul_n dX7_tellIt_112 ?_ | refine go_imul dX7_tellIt_112 rfl ?_
      first | refine go_iadd_n dX7_tellIt_113 ?_ | refine go_iadd dX7_tellIt_113 rfl ?_
      refine go_iload dX7_tellIt_114 rfl ?_
      first | refine go_iadd_n dX7_tellIt_116 ?_ | refine go_iadd dX7_tellIt_116 rfl ?_
      refine go_dup2 dX7_tellIt_117 rfl rfl ?_
      refine go_ialdA dX7_tellIt_118 rfl (by decide) rfl (by omega) (by decide) rfl ?_
      refine go_iconst (nI 1) dX7_tellIt_119 (by decide +kernel) ?_
      refine go_iadd dX7_tellIt_120 rfl ?_
      refine go_iastA dX7_tellIt_121 rfl (by decide) rfl (by omega) (by decide) ?_
      refine go_aload_n dX7_tellIt_122 rfl ?_
      refine go_aload_n dX7_tellIt_123 rfl ?_
      refine go_callV0 (K' := kX7_halve) [_] dX7_tellIt_124 mX7_133 lX7_halve rfl (by decide) rfl (by decide) rfl rfl (Nat.le_of_ble_eq_true rfl) (Nat.le_of_ble_eq_true rfl) (c_halve_52 hN hN3) ?_
      exact go_vret dX7_tellIt_127 rfl rfl (by rw [gupA_gupA, gupA_s]; rfl)
    | succ c ih =>
      intro q hq
      refine go_iload dX7_tellIt_60 rfl ?_
      refine go_aload_n dX7_tellIt_62 rfl ?_
      refine go_geti dX7_tellIt_63 fX7_81 rfl (by decide) (by decide) (by decide) rfl hP ?_
      refine go_icmp_ge 106 dX7_tellIt_66 (by decide) (fun h => absurd h (nI_ge (by omega) (by omega))) (fun h66 => ?_)
      refine go_aload_n dX7_tellIt_69 rfl ?_
      refine go_bipush (nI 24) dX7_tellIt_70 (by decide +kernel) ?_
      refine go_bipush (nI 6) dX7_tellIt_72 (by decide +kernel) ?_
      refine go_iload dX7_tellIt_74 rfl ?_
      first | refine go_imul_n dX7_tellIt_76 ?_ | refine go_imul dX7_tellIt_76 rfl ?_
      first | refine go_iadd_n dX7_tellIt_77 ?_ | refine go_iadd dX7_tellIt_77 rfl ?_
      refine go_iload dX7_tellIt_78 rfl ?_
      first | refine go_iadd_n dX7_tellIt_80 ?_ | refine go_iadd dX7_tellIt_80 rfl ?_
      refine go_dup2 dX7_tellIt_81 rfl rfl ?_
      refine go_ialdA dX7_tellIt_82 rfl (by decide) rfl (by omega) (by decide) rfl ?_
      refine go_iload dX7_tellIt_83 rfl ?_
      refine go_iload dX7_tellIt_85 rfl ?_
      refine go_callS1 (K' := kX7_has) [_, _] dX7_tellIt_87 mX7_109 lX7_has rfl rfl (Nat.le_of_ble_eq_true rfl) (Nat.le_of_ble_eq_true rfl) (c_has (by omega) (by omega)) ?_
      refine go_if_eq 97 dX7_tellIt_90 (by decide) (fun h90 => ?_) (fun h90 => ?_)
      · have ev : atA (tl3 (m.1 52) n p (grp (m.1 48) P h a)) n (grp (m.1 48) P h a) q (24 + 6 * n + q) + nI 0 = atA (tl3 (m.1 52) n p (grp (m.1 48) P h a)) n (grp (m.1 48) P h a) q (24 + 6 * n + q) + nI (if (grp (m.1 48) P h a).testBit q then 1 else 0) := by rw [bI_0.mp h90]; rfl
        refine go_iconst (nI 0) dX7_tellIt_97 (by decide +kernel) ?_
        refine go_iadd dX7_tellIt_98 ev ?_
        refine go_iastA dX7_tellIt_99 rfl (by decide) rfl (by omega) (by decide) ?_
        refine go_iinc_n (L' := [_, _, _, _, _, _, _, _]) dX7_tellIt_100 rfl (by decide) rfl ?_
        refine go_goto 60 dX7_tellIt_103 (by decide) ?_
        exact ih (q + 1) (by omega)
      · have ev : atA (tl3 (m.1 52) n p (grp (m.1 48) P h a)) n (grp (m.1 48) P h a) q (24 + 6 * n + q) + nI 1 = atA (tl3 (m.1 52) n p (grp (m.1 48) P h a)) n (grp (m.1 48) P h a) q (24 + 6 * n + q) + nI (if (grp (m.1 48) P h a).testBit q then 1 else 0) := by rw [bI_n0.mp h90]; rfl
        refine go_iconst (nI 1) dX7_tellIt_93 (by decide +kernel) ?_
        refine go_goto 98 dX7_tellIt_94 (by decide) ?_
        refine go_iadd dX7_tellIt_98 ev ?_
        refine go_iastA dX7_tellIt_99 rfl (by decide) rfl (by omega) (by decide) ?_
        refine go_iinc_n (L' := [_, _, _, _, _, _, _, _]) dX7_tellIt_100 rfl (by decide) rfl ?_
        refine go_goto 60 dX7_tellIt_103 (by decide) ?_
        exact ih (q + 1) (by omega)
  show Go O (d + 1) kX7_tellIt none _ 0 [.ref 46, .ref 52, .int (nI h), .int (nI p), .int (nI n), .null, .null, .null] [] m
  refine go_aload_n dX7_tellIt_0 rfl ?_
  refine go_getc dX7_tellIt_1 fX7_13 rfl (by decide) (by decide) (by decide) rfl ?_
  refine go_bipush (nI 6) dX7_tellIt_4 (by decide +kernel) ?_
  refine go_iload_n dX7_tellIt_6 rfl ?_
  first | refine go_imul_n dX7_tellIt_7 ?_ | refine go_imul dX7_tellIt_7 rfl ?_
  refine go_iload_n dX7_tellIt_8 rfl ?_
  first | refine go_iadd_n dX7_tellIt_9 ?_ | refine go_iadd dX7_tellIt_9 rfl ?_
  refine go_iald dX7_tellIt_10 rfl (by decide) rfl (by omega) (by decide) hav ?_
  refine go_istore (L' := [_, _, _, _, _, _, _, _]) dX7_tellIt_11 (by decide) rfl ?_
  refine go_aload_n dX7_tellIt_13 rfl ?_
  refine go_iload dX7_tellIt_14 rfl ?_
  refine go_iload_n dX7_tellIt_16 rfl ?_
  refine go_callV1 (K' := kX7_those) [_, _] dX7_tellIt_17 mX7_158 lX7_those rfl (by decide) rfl (by decide) rfl rfl (Nat.le_of_ble_eq_true rfl) (Nat.le_of_ble_eq_true rfl) (c_grp hP hP6 hh) ?_
  refine go_istore (L' := [_, _, _, _, _, _, _, _]) dX7_tellIt_20 (by decide) rfl ?_
  refine go_mem (gupA_self m 52).symm ?_
  refine go_aload_n dX7_tellIt_22 rfl ?_
  refine go_iload dX7_tellIt_23 rfl ?_
  refine go_dup2 dX7_tellIt_25 rfl rfl ?_
  refine go_ialdA dX7_tellIt_26 rfl (by decide) rfl (by omega) (by decide) rfl ?_
  refine go_iconst (nI 1) dX7_tellIt_27 (by decide +kernel) ?_
  refine go_iadd dX7_tellIt_28 rfl ?_
  refine go_iastA dX7_tellIt_29 rfl (by decide) rfl (by omega) (by decide) ?_
  refine go_aload_n dX7_tellIt_30 rfl ?_
  refine go_iconst (nI 3) dX7_tellIt_31 (by decide +kernel) ?_
  refine go_iload dX7_tellIt_32 rfl ?_
  first | refine go_iadd_n dX7_tellIt_34 ?_ | refine go_iadd dX7_tellIt_34 rfl ?_
  refine go_dup2 dX7_tellIt_35 rfl rfl ?_
  refine go_ialdA dX7_tellIt_36 rfl (by decide) rfl (by omega) (by decide) rfl ?_
  refine go_iload dX7_tellIt_37 rfl ?_
  refine go_ior dX7_tellIt_39 rfl ?_
  refine go_iastA dX7_tellIt_40 rfl (by decide) rfl (by omega) (by decide) ?_
  refine go_aload_n dX7_tellIt_41 rfl ?_
  refine go_bipush (nI 6) dX7_tellIt_42 (by decide +kernel) ?_
  refine go_bipush (nI 6) dX7_tellIt_44 (by decide +kernel) ?_
  refine go_iload dX7_tellIt_46 rfl ?_
  first | refine go_imul_n dX7_tellIt_48 ?_ | refine go_imul dX7_tellIt_48 rfl ?_
  first | refine go_iadd_n dX7_tellIt_49 ?_ | refine go_iadd dX7_tellIt_49 rfl ?_
  refine go_iload_n dX7_tellIt_50 rfl ?_
  first | refine go_iadd_n dX7_tellIt_51 ?_ | refine go_iadd dX7_tellIt_51 rfl ?_
  refine go_dup2 dX7_tellIt_52 rfl rfl ?_
  refine go_ialdA dX7_tellIt_53 rfl (by decide) rfl (by omega) (by decide) rfl ?_
  refine go_iconst (nI 1) dX7_tellIt_54 (by decide +kernel) ?_
  refine go_iadd dX7_tellIt_55 rfl ?_
  refine go_iastA dX7_tellIt_56 rfl (by decide) rfl (by omega) (by decide) ?_
  refine go_iconst (nI 0) dX7_tellIt_57 (by decide +kernel) ?_
  refine go_istore (L' := [_, _, _, _, _, _, _, _]) dX7_tellIt_58 (by decide) rfl ?_
  exact key P 0 (by omega)
theorem c_tellIt_60 {O : gOm} {d : Nat} {m : gMem} {P N h p n a : Nat} (hP : m.1 46 4 = nI P) (hP6 : P ≤ 6) (hN : m.1 46 5 = nI N) (hN3 : N ≤ 3) (hh : h < 6) (hp : p < P) (hn : n < 3) (hav : m.1 48 (6 * p + h) = nI a) (ha : a < 3) : Ca O (d + 1) kX7_tellIt [.ref 46, .ref 60, .int (nI h), .int (nI p), .int (nI n)] none m (gupA m 60 (tlP (m.1 60) n p a (grp (m.1 48) P h a) P N)) := by
  have hg := grp_64 (m.1 48) h a hP6
  have key : ∀ c q, q + c = P → Go O (d + 1) kX7_tellIt none (gupA m 60 (tlP (m.1 60) n p a (grp (m.1 48) P h a) P N)) 60 [.ref 46, .ref 60, .int (nI h), .int (nI p), .int (nI n), .int (nI a), .int (nI (grp (m.1 48) P h a)), .int (nI q)] [] (gupA m 60 (atA (tl3 (m.1 60) n p (grp (m.1 48) P h a)) n (grp (m.1 48) P h a) q)) := by
    intro c
    induction c with
    | zero =>
      intro q hq
      obtain rfl : q = P := by omega
      refine go_iload dX7_tellIt_60 rfl ?_
      refine go_aload_n dX7_tellIt_62 rfl ?_
      refine go_geti dX7_tellIt_63 fX7_81 rfl (by decide) (by decide) (by decide) rfl hP ?_
      refine go_icmp_ge 106 dX7_tellIt_66 (by decide) (fun h66 => ?_) (fun h => absurd (nI_le (by omega) (by omega)) h)
      refine go_aload_n dX7_tellIt_106 rfl ?_
      refine go_bipush (nI 42) dX7_tellIt_107 (by decide +kernel) ?_
      refine go_iconst (nI 3) dX7_tellIt_109 (by decide +kernel) ?_
      refine go_iload dX7_tellIt_110 rfl ?_
      first | refine go_imul_n dX7_tellIt_112 ?_ | refine go_imul dX7_tellIt_112 rfl ?_
      first | refine go_iadd_n dX7_tellIt_113 ?_ | refine go_iadd dX7_tellIt_113 rfl ?_
      refine go_iload dX7_tellIt_114 rfl ?_
      first | refine go_iadd_n dX7_tellIt_116 ?_ | refine go_iadd dX7_tellIt_116 rfl ?_
      refine go_dup2 dX7_tellIt_117 rfl rfl ?_
      refine go_ialdA dX7_tellIt_118 rfl (by decide) rfl (by omega) (by decide) rfl ?_
      refine go_iconst (nI 1) dX7_tellIt_119 (by decide +kernel) ?_
      refine go_iadd dX7_tellIt_120 rfl ?_
      refine go_iastA dX7_tellIt_121 rfl (by decide) rfl (by omega) (by decide) ?_
      refine go_aload_n dX7_tellIt_122 rfl ?_
      refine go_aload_n dX7_tellIt_123 rfl ?_
      refine go_callV0 (K' := kX7_halve) [_] dX7_tellIt_124 mX7_133 lX7_halve rfl (by decide) rfl (by decide) rfl rfl (Nat.le_of_ble_eq_true rfl) (Nat.le_of_ble_eq_true rfl) (c_halve_60 hN hN3) ?_
      exact go_vret dX7_tellIt_127 rfl rfl (by rw [gupA_gupA, gupA_s]; rfl)
    | succ c ih =>
      intro q hq
      refine go_iload dX7_tellIt_60 rfl ?_
      refine go_aload_n dX7_tellIt_62 rfl ?_
      refine go_geti dX7_tellIt_63 fX7_81 rfl (by decide) (by decide) (by decide) rfl hP ?_
      refine go_icmp_ge 106 dX7_tellIt_66 (by decide) (fun h => absurd h (nI_ge (by omega) (by omega))) (fun h66 => ?_)
      refine go_aload_n dX7_tellIt_69 rfl ?_
      refine go_bipush (nI 24) dX7_tellIt_70 (by decide +kernel) ?_
      refine go_bipush (nI 6) dX7_tellIt_72 (by decide +kernel) ?_
      refine go_iload dX7_tellIt_74 rfl ?_
      first | refine go_imul_n dX7_tellIt_76 ?_ | refine go_imul dX7_tellIt_76 rfl ?_
      first | refine go_iadd_n dX7_tellIt_77 ?_ | refine go_iadd dX7_tellIt_77 rfl ?_
      refine go_iload dX7_tellIt_78 rfl ?_
      first | refine go_iadd_n dX7_tellIt_80 ?_ | refine go_iadd dX7_tellIt_80 rfl ?_
      refine go_dup2 dX7_tellIt_81 rfl rfl ?_
      refine go_ialdA dX7_tellIt_82 rfl (by decide) rfl (by omega) (by decide) rfl ?_
      refine go_iload dX7_tellIt_83 rfl ?_
      refine go_iload dX7_tellIt_85 rfl ?_
      refine go_callS1 (K' := kX7_has) [_, _] dX7_tellIt_87 mX7_109 lX7_has rfl rfl (Nat.le_of_ble_eq_true rfl) (Nat.le_of_ble_eq_true rfl) (c_has (by omega) (by omega)) ?_
      refine go_if_eq 97 dX7_tellIt_90 (by decide) (fun h90 => ?_) (fun h90 => ?_)
      · have ev : atA (tl3 (m.1 60) n p (grp (m.1 48) P h a)) n (grp (m.1 48) P h a) q (24 + 6 * n + q) + nI 0 = atA (tl3 (m.1 60) n p (grp (m.1 48) P h a)) n (grp (m.1 48) P h a) q (24 + 6 * n + q) + nI (if (grp (m.1 48) P h a).testBit q then 1 else 0) := by rw [bI_0.mp h90]; rfl
        refine go_iconst (nI 0) dX7_tellIt_97 (by decide +kernel) ?_
        refine go_iadd dX7_tellIt_98 ev ?_
        refine go_iastA dX7_tellIt_99 rfl (by decide) rfl (by omega) (by decide) ?_
        refine go_iinc_n (L' := [_, _, _, _, _, _, _, _]) dX7_tellIt_100 rfl (by decide) rfl ?_
        refine go_goto 60 dX7_tellIt_103 (by decide) ?_
        exact ih (q + 1) (by omega)
      · have ev : atA (tl3 (m.1 60) n p (grp (m.1 48) P h a)) n (grp (m.1 48) P h a) q (24 + 6 * n + q) + nI 1 = atA (tl3 (m.1 60) n p (grp (m.1 48) P h a)) n (grp (m.1 48) P h a) q (24 + 6 * n + q) + nI (if (grp (m.1 48) P h a).testBit q then 1 else 0) := by rw [bI_n0.mp h90]; rfl
        refine go_iconst (nI 1) dX7_tellIt_93 (by decide +kernel) ?_
        refine go_goto 98 dX7_tellIt_94 (by decide) ?_
        refine go_iadd dX7_tellIt_98 ev ?_
        refine go_iastA dX7_tellIt_99 rfl (by decide) rfl (by omega) (by decide) ?_
        refine go_iinc_n (L' := [_, _, _, _, _, _, _, _]) dX7_tellIt_100 rfl (by decide) rfl ?_
        refine go_goto 60 dX7_tellIt_103 (by decide) ?_
        exact ih (q + 1) (by omega)
  show Go O (d + 1) kX7_tellIt none _ 0 [.ref 46, .ref 60, .int (nI h), .int (nI p), .int (nI n), .null, .null, .null] [] m
  refine go_aload_n dX7_tellIt_0 rfl ?_
  refine go_getc dX7_tellIt_1 fX7_13 rfl (by decide) (by decide) (by decide) rfl ?_
  refine go_bipush (nI 6) dX7_tellIt_4 (by decide +kernel) ?_
  refine go_iload_n dX7_tellIt_6 rfl ?_
  first | refine go_imul_n dX7_tellIt_7 ?_ | refine go_imul dX7_tellIt_7 rfl ?_
  refine go_iload_n dX7_tellIt_8 rfl ?_
  first | refine go_iadd_n dX7_tellIt_9 ?_ | refine go_iadd dX7_tellIt_9 rfl ?_
  refine go_iald dX7_tellIt_10 rfl (by decide) rfl (by omega) (by decide) hav ?_
  refine go_istore (L' := [_, _, _, _, _, _, _, _]) dX7_tellIt_11 (by decide) rfl ?_
  refine go_aload_n dX7_tellIt_13 rfl ?_
  refine go_iload dX7_tellIt_14 rfl ?_
  refine go_iload_n dX7_tellIt_16 rfl ?_
  refine go_callV1 (K' := kX7_those) [_, _] dX7_tellIt_17 mX7_158 lX7_those rfl (by decide) rfl (by decide) rfl rfl (Nat.le_of_ble_eq_true rfl) (Nat.le_of_ble_eq_true rfl) (c_grp hP hP6 hh) ?_
  refine go_istore (L' := [_, _, _, _, _, _, _, _]) dX7_tellIt_20 (by decide) rfl ?_
  refine go_mem (gupA_self m 60).symm ?_
  refine go_aload_n dX7_tellIt_22 rfl ?_
  refine go_iload dX7_tellIt_23 rfl ?_
  refine go_dup2 dX7_tellIt_25 rfl rfl ?_
  refine go_ialdA dX7_tellIt_26 rfl (by decide) rfl (by omega) (by decide) rfl ?_
  refine go_iconst (nI 1) dX7_tellIt_27 (by decide +kernel) ?_
  refine go_iadd dX7_tellIt_28 rfl ?_
  refine go_iastA dX7_tellIt_29 rfl (by decide) rfl (by omega) (by decide) ?_
  refine go_aload_n dX7_tellIt_30 rfl ?_
  refine go_iconst (nI 3) dX7_tellIt_31 (by decide +kernel) ?_
  refine go_iload dX7_tellIt_32 rfl ?_
  first | refine go_iadd_n dX7_tellIt_34 ?_ | refine go_iadd dX7_tellIt_34 rfl ?_
  refine go_dup2 dX7_tellIt_35 rfl rfl ?_
  refine go_ialdA dX7_tellIt_36 rfl (by decide) rfl (by omega) (by decide) rfl ?_
  refine go_iload dX7_tellIt_37 rfl ?_
  refine go_ior dX7_tellIt_39 rfl ?_
  refine go_iastA dX7_tellIt_40 rfl (by decide) rfl (by omega) (by decide) ?_
  refine go_aload_n dX7_tellIt_41 rfl ?_
  refine go_bipush (nI 6) dX7_tellIt_42 (by decide +kernel) ?_
  refine go_bipush (nI 6) dX7_tellIt_44 (by decide +kernel) ?_
  refine go_iload dX7_tellIt_46 rfl ?_
  first | refine go_imul_n dX7_tellIt_48 ?_ | refine go_imul dX7_tellIt_48 rfl ?_
  first | refine go_iadd_n dX7_tellIt_49 ?_ | refine go_iadd dX7_tellIt_49 rfl ?_
  refine go_iload_n dX7_tellIt_50 rfl ?_
  first | refine go_iadd_n dX7_tellIt_51 ?_ | refine go_iadd dX7_tellIt_51 rfl ?_
  refine go_dup2 dX7_tellIt_52 rfl rfl ?_
  refine go_ialdA dX7_tellIt_53 rfl (by decide) rfl (by omega) (by decide) rfl ?_
  refine go_iconst (nI 1) dX7_tellIt_54 (by decide +kernel) ?_
  refine go_iadd dX7_tellIt_55 rfl ?_
  refine go_iastA dX7_tellIt_56 rfl (by decide) rfl (by omega) (by decide) ?_
  refine go_iconst (nI 0) dX7_tellIt_57 (by decide +kernel) ?_
  refine go_istore (L' := [_, _, _, _, _, _, _, _]) dX7_tellIt_58 (by decide) rfl ?_
  exact key P 0 (by omega)
/-- k values of the page's from place b on -/
def cpP (f w : Nat → Int32) (b : Nat) : Nat → Nat → Int32
  | 0 => f
  | k + 1 => upd (cpP f w b k) (b + k) (w k)
theorem cpP_at (f w : Nat → Int32) (b j : Nat) : ∀ k, cpP f w b k j = if b ≤ j ∧ j < b + k then w (j - b) else f j
  | 0 => by
    rw [if_neg (by omega)]
    rfl
  | k + 1 => by
    by_cases h : j = b + k
    · rw [if_pos (by omega), cpP, h, upd_s, show b + k - b = k by omega]
    · rw [cpP, upd_n _ _ h, cpP_at f w b j k]
      by_cases h2 : b ≤ j ∧ j < b + k
      · rw [if_pos h2, if_pos (by omega)]
      · rw [if_neg h2, if_neg (by omega)]
/-- a page with its hour, laid from place b on -/
def lyP (f w : Nat → Int32) (b : Nat) (hr : Int32) : Nat → Int32 := upd (cpP f w b 58) (b + 57) hr
theorem lyP_in (f w : Nat → Int32) (b : Nat) (hr : Int32) {j : Nat} (h : j < 57) : lyP f w b hr (b + j) = w j := by
  rw [lyP, upd_n _ _ (by omega), cpP_at, if_pos (by omega), show b + j - b = j by omega]
theorem lyP_hr (f w : Nat → Int32) (b : Nat) (hr : Int32) : lyP f w b hr (b + 57) = hr := upd_s _ _ _
theorem lyP_out (f w : Nat → Int32) (b : Nat) (hr : Int32) {j : Nat} (h : j < b ∨ b + 58 ≤ j) : lyP f w b hr j = f j := by
  rw [lyP, upd_n _ _ (by omega), cpP_at, if_neg (by omega)]
theorem c_layPage_57 {O : gOm} {d : Nat} {m : gMem} {b : Nat} (hb : b + 58 ≤ 928) : Ca O d kX7_layPage [.ref 46, .ref 57, .int (nI b)] none m (gupA m 57 (lyP (m.1 57) (m.1 52) b (m.1 46 11))) := by
  have key : ∀ c k, k + c = 58 → Go O d kX7_layPage none (gupA m 57 (lyP (m.1 57) (m.1 52) b (m.1 46 11))) 2 [.ref 46, .ref 57, .int (nI b), .int (nI k)] [] (gupA m 57 (cpP (m.1 57) (m.1 52) b k)) := by
    intro c
    induction c with
    | zero =>
      intro k hk
      obtain rfl : k = 58 := by omega
      refine go_iload_n dX7_layPage_2 rfl ?_
      refine go_bipush (nI 58) dX7_layPage_3 (by decide +kernel) ?_
      refine go_icmp_ge 25 dX7_layPage_5 (by decide) (fun h5 => ?_) (fun h => absurd (nI_le (by omega) (by omega)) h)
      refine go_aload_n dX7_layPage_25 rfl ?_
      refine go_iload_n dX7_layPage_26 rfl ?_
      refine go_bipush (nI 57) dX7_layPage_27 (by decide +kernel) ?_
      first | refine go_iadd_n dX7_layPage_29 ?_ | refine go_iadd dX7_layPage_29 rfl ?_
      refine go_aload_n dX7_layPage_30 rfl ?_
      refine go_geti dX7_layPage_31 fX7_137 rfl (by decide) (by decide) (by decide) rfl rfl ?_
      refine go_iastA dX7_layPage_34 rfl (by decide) rfl (by omega) (by decide) ?_
      exact go_vret dX7_layPage_35 rfl rfl rfl
    | succ c ih =>
      intro k hk
      refine go_iload_n dX7_layPage_2 rfl ?_
      refine go_bipush (nI 58) dX7_layPage_3 (by decide +kernel) ?_
      refine go_icmp_ge 25 dX7_layPage_5 (by decide) (fun h => absurd h (nI_ge (by omega) (by omega))) (fun h5 => ?_)
      refine go_aload_n dX7_layPage_8 rfl ?_
      refine go_iload_n dX7_layPage_9 rfl ?_
      refine go_iload_n dX7_layPage_10 rfl ?_
      first | refine go_iadd_n dX7_layPage_11 ?_ | refine go_iadd dX7_layPage_11 rfl ?_
      refine go_aload_n dX7_layPage_12 rfl ?_
      refine go_getc dX7_layPage_13 fX7_25 rfl (by decide) (by decide) (by decide) rfl ?_
      refine go_iload_n dX7_layPage_16 rfl ?_
      refine go_iald dX7_layPage_17 rfl (by decide) rfl (by omega) (by decide) rfl ?_
      refine go_iastA dX7_layPage_18 rfl (by decide) rfl (by omega) (by decide) ?_
      refine go_iinc_n (L' := [_, _, _, _]) dX7_layPage_19 rfl (by decide) rfl ?_
      refine go_goto 2 dX7_layPage_22 (by decide) ?_
      exact ih (k + 1) (by omega)
  show Go O d kX7_layPage none _ 0 [.ref 46, .ref 57, .int (nI b), .null] [] m
  refine go_mem (gupA_self m 57).symm ?_
  refine go_iconst (nI 0) dX7_layPage_0 (by decide +kernel) ?_
  refine go_istore_n (L' := [_, _, _, _]) dX7_layPage_1 (by decide) rfl ?_
  exact key 58 0 (by omega)
theorem c_takePage_57 {O : gOm} {d : Nat} {m : gMem} {b : Nat} (hb : b + 58 ≤ 928) : Ca O d kX7_takePage [.ref 46, .ref 57, .int (nI b)] none m (gup (gupA m 52 (cpP (m.1 52) (fun j => m.1 57 (b + j)) 0 58)) 46 11 (m.1 57 (b + 57))) := by
  have key : ∀ c k, k + c = 58 → Go O d kX7_takePage none (gup (gupA m 52 (cpP (m.1 52) (fun j => m.1 57 (b + j)) 0 58)) 46 11 (m.1 57 (b + 57))) 2 [.ref 46, .ref 57, .int (nI b), .int (nI k)] [] (gupA m 52 (cpP (m.1 52) (fun j => m.1 57 (b + j)) 0 k)) := by
    intro c
    induction c with
    | zero =>
      intro k hk
      obtain rfl : k = 58 := by omega
      refine go_iload_n dX7_takePage_2 rfl ?_
      refine go_bipush (nI 58) dX7_takePage_3 (by decide +kernel) ?_
      refine go_icmp_ge 25 dX7_takePage_5 (by decide) (fun h5 => ?_) (fun h => absurd (nI_le (by omega) (by omega)) h)
      refine go_aload_n dX7_takePage_25 rfl ?_
      refine go_aload_n dX7_takePage_26 rfl ?_
      refine go_iload_n dX7_takePage_27 rfl ?_
      refine go_bipush (nI 57) dX7_takePage_28 (by decide +kernel) ?_
      first | refine go_iadd_n dX7_takePage_30 ?_ | refine go_iadd dX7_takePage_30 rfl ?_
      refine go_iald dX7_takePage_31 rfl (by decide) rfl (by omega) (by decide) rfl ?_
      refine go_puti dX7_takePage_32 fX7_137 rfl (by decide) (by decide) (by decide) rfl (fun _ _ _ h => by cases h; rfl) (Or.inl rfl) ?_
      exact go_vret dX7_takePage_35 rfl rfl rfl
    | succ c ih =>
      intro k hk
      have ez : gupA m 52 (upd (cpP (m.1 52) (fun j => m.1 57 (b + j)) 0 k) k (m.1 57 (b + k))) = gupA m 52 (cpP (m.1 52) (fun j => m.1 57 (b + j)) 0 (k + 1)) := by
        rw [cpP, Nat.zero_add]
      refine go_iload_n dX7_takePage_2 rfl ?_
      refine go_bipush (nI 58) dX7_takePage_3 (by decide +kernel) ?_
      refine go_icmp_ge 25 dX7_takePage_5 (by decide) (fun h => absurd h (nI_ge (by omega) (by omega))) (fun h5 => ?_)
      refine go_aload_n dX7_takePage_8 rfl ?_
      refine go_getc dX7_takePage_9 fX7_25 rfl (by decide) (by decide) (by decide) rfl ?_
      refine go_iload_n dX7_takePage_12 rfl ?_
      refine go_aload_n dX7_takePage_13 rfl ?_
      refine go_iload_n dX7_takePage_14 rfl ?_
      refine go_iload_n dX7_takePage_15 rfl ?_
      first | refine go_iadd_n dX7_takePage_16 ?_ | refine go_iadd dX7_takePage_16 rfl ?_
      refine go_iald dX7_takePage_17 rfl (by decide) rfl (by omega) (by decide) rfl ?_
      refine go_iastA dX7_takePage_18 rfl (by decide) rfl (by omega) (by decide) ?_
      refine go_mem ez ?_
      refine go_iinc_n (L' := [_, _, _, _]) dX7_takePage_19 rfl (by decide) rfl ?_
      refine go_goto 2 dX7_takePage_22 (by decide) ?_
      exact ih (k + 1) (by omega)
  show Go O d kX7_takePage none _ 0 [.ref 46, .ref 57, .int (nI b), .null] [] m
  refine go_mem (gupA_self m 52).symm ?_
  refine go_iconst (nI 0) dX7_takePage_0 (by decide +kernel) ?_
  refine go_istore_n (L' := [_, _, _, _]) dX7_takePage_1 (by decide) rfl ?_
  exact key 58 0 (by omega)
theorem c_layPage_58 {O : gOm} {d : Nat} {m : gMem} {b : Nat} (hb : b + 58 ≤ 116) : Ca O d kX7_layPage [.ref 46, .ref 58, .int (nI b)] none m (gupA m 58 (lyP (m.1 58) (m.1 52) b (m.1 46 11))) := by
  have key : ∀ c k, k + c = 58 → Go O d kX7_layPage none (gupA m 58 (lyP (m.1 58) (m.1 52) b (m.1 46 11))) 2 [.ref 46, .ref 58, .int (nI b), .int (nI k)] [] (gupA m 58 (cpP (m.1 58) (m.1 52) b k)) := by
    intro c
    induction c with
    | zero =>
      intro k hk
      obtain rfl : k = 58 := by omega
      refine go_iload_n dX7_layPage_2 rfl ?_
      refine go_bipush (nI 58) dX7_layPage_3 (by decide +kernel) ?_
      refine go_icmp_ge 25 dX7_layPage_5 (by decide) (fun h5 => ?_) (fun h => absurd (nI_le (by omega) (by omega)) h)
      refine go_aload_n dX7_layPage_25 rfl ?_
      refine go_iload_n dX7_layPage_26 rfl ?_
      refine go_bipush (nI 57) dX7_layPage_27 (by decide +kernel) ?_
      first | refine go_iadd_n dX7_layPage_29 ?_ | refine go_iadd dX7_layPage_29 rfl ?_
      refine go_aload_n dX7_layPage_30 rfl ?_
      refine go_geti dX7_layPage_31 fX7_137 rfl (by decide) (by decide) (by decide) rfl rfl ?_
      refine go_iastA dX7_layPage_34 rfl (by decide) rfl (by omega) (by decide) ?_
      exact go_vret dX7_layPage_35 rfl rfl rfl
    | succ c ih =>
      intro k hk
      refine go_iload_n dX7_layPage_2 rfl ?_
      refine go_bipush (nI 58) dX7_layPage_3 (by decide +kernel) ?_
      refine go_icmp_ge 25 dX7_layPage_5 (by decide) (fun h => absurd h (nI_ge (by omega) (by omega))) (fun h5 => ?_)
      refine go_aload_n dX7_layPage_8 rfl ?_
      refine go_iload_n dX7_layPage_9 rfl ?_
      refine go_iload_n dX7_layPage_10 rfl ?_
      first | refine go_iadd_n dX7_layPage_11 ?_ | refine go_iadd dX7_layPage_11 rfl ?_
      refine go_aload_n dX7_layPage_12 rfl ?_
      refine go_getc dX7_layPage_13 fX7_25 rfl (by decide) (by decide) (by decide) rfl ?_
      refine go_iload_n dX7_layPage_16 rfl ?_
      refine go_iald dX7_layPage_17 rfl (by decide) rfl (by omega) (by decide) rfl ?_
      refine go_iastA dX7_layPage_18 rfl (by decide) rfl (by omega) (by decide) ?_
      refine go_iinc_n (L' := [_, _, _, _]) dX7_layPage_19 rfl (by decide) rfl ?_
      refine go_goto 2 dX7_layPage_22 (by decide) ?_
      exact ih (k + 1) (by omega)
  show Go O d kX7_layPage none _ 0 [.ref 46, .ref 58, .int (nI b), .null] [] m
  refine go_mem (gupA_self m 58).symm ?_
  refine go_iconst (nI 0) dX7_layPage_0 (by decide +kernel) ?_
  refine go_istore_n (L' := [_, _, _, _]) dX7_layPage_1 (by decide) rfl ?_
  exact key 58 0 (by omega)
theorem c_takePage_58 {O : gOm} {d : Nat} {m : gMem} {b : Nat} (hb : b + 58 ≤ 116) : Ca O d kX7_takePage [.ref 46, .ref 58, .int (nI b)] none m (gup (gupA m 52 (cpP (m.1 52) (fun j => m.1 58 (b + j)) 0 58)) 46 11 (m.1 58 (b + 57))) := by
  have key : ∀ c k, k + c = 58 → Go O d kX7_takePage none (gup (gupA m 52 (cpP (m.1 52) (fun j => m.1 58 (b + j)) 0 58)) 46 11 (m.1 58 (b + 57))) 2 [.ref 46, .ref 58, .int (nI b), .int (nI k)] [] (gupA m 52 (cpP (m.1 52) (fun j => m.1 58 (b + j)) 0 k)) := by
    intro c
    induction c with
    | zero =>
      intro k hk
      obtain rfl : k = 58 := by omega
      refine go_iload_n dX7_takePage_2 rfl ?_
      refine go_bipush (nI 58) dX7_takePage_3 (by decide +kernel) ?_
      refine go_icmp_ge 25 dX7_takePage_5 (by decide) (fun h5 => ?_) (fun h => absurd (nI_le (by omega) (by omega)) h)
      refine go_aload_n dX7_takePage_25 rfl ?_
      refine go_aload_n dX7_takePage_26 rfl ?_
      refine go_iload_n dX7_takePage_27 rfl ?_
      refine go_bipush (nI 57) dX7_takePage_28 (by decide +kernel) ?_
      first | refine go_iadd_n dX7_takePage_30 ?_ | refine go_iadd dX7_takePage_30 rfl ?_
      refine go_iald dX7_takePage_31 rfl (by decide) rfl (by omega) (by decide) rfl ?_
      refine go_puti dX7_takePage_32 fX7_137 rfl (by decide) (by decide) (by decide) rfl (fun _ _ _ h => by cases h; rfl) (Or.inl rfl) ?_
      exact go_vret dX7_takePage_35 rfl rfl rfl
    | succ c ih =>
      intro k hk
      have ez : gupA m 52 (upd (cpP (m.1 52) (fun j => m.1 58 (b + j)) 0 k) k (m.1 58 (b + k))) = gupA m 52 (cpP (m.1 52) (fun j => m.1 58 (b + j)) 0 (k + 1)) := by
        rw [cpP, Nat.zero_add]
      refine go_iload_n dX7_takePage_2 rfl ?_
      refine go_bipush (nI 58) dX7_takePage_3 (by decide +kernel) ?_
      refine go_icmp_ge 25 dX7_takePage_5 (by decide) (fun h => absurd h (nI_ge (by omega) (by omega))) (fun h5 => ?_)
      refine go_aload_n dX7_takePage_8 rfl ?_
      refine go_getc dX7_takePage_9 fX7_25 rfl (by decide) (by decide) (by decide) rfl ?_
      refine go_iload_n dX7_takePage_12 rfl ?_
      refine go_aload_n dX7_takePage_13 rfl ?_
      refine go_iload_n dX7_takePage_14 rfl ?_
      refine go_iload_n dX7_takePage_15 rfl ?_
      first | refine go_iadd_n dX7_takePage_16 ?_ | refine go_iadd dX7_takePage_16 rfl ?_
      refine go_iald dX7_takePage_17 rfl (by decide) rfl (by omega) (by decide) rfl ?_
      refine go_iastA dX7_takePage_18 rfl (by decide) rfl (by omega) (by decide) ?_
      refine go_mem ez ?_
      refine go_iinc_n (L' := [_, _, _, _]) dX7_takePage_19 rfl (by decide) rfl ?_
      refine go_goto 2 dX7_takePage_22 (by decide) ?_
      exact ih (k + 1) (by omega)
  show Go O d kX7_takePage none _ 0 [.ref 46, .ref 58, .int (nI b), .null] [] m
  refine go_mem (gupA_self m 52).symm ?_
  refine go_iconst (nI 0) dX7_takePage_0 (by decide +kernel) ?_
  refine go_istore_n (L' := [_, _, _, _]) dX7_takePage_1 (by decide) rfl ?_
  exact key 58 0 (by omega)
