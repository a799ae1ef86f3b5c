theorem c_grp {O : gOm} {d : Nat} {m : gMem} {P h a : Nat} (hP : m.1 46 4 = nI P) (hP6 : P ≤ 6) (hh : h < 6) : Ca O d kX7_those [.ref 46, .int (nI a), .int (nI h)] (some (.int (nI (grp (m.1 48) P h a)))) m m := c_those hP hP6 hh
theorem c_halve_52 {O : gOm} {d : Nat} {m : gMem} {N : Nat} (hN : m.1 46 5 = nI N) (hN3 : N ≤ 3) : Ca O d kX7_halve [.ref 46, .ref 52] none m (gupA m 52 (hvP (m.1 52) N)) := by
  show Go O d kX7_halve none _ 0 [.ref 46, .ref 52] [] m
  refine go_aload_n dX7_halve_0 rfl ?_
  refine go_iconst (nI 5) dX7_halve_1 (by decide +kernel) ?_
  refine go_dup2 dX7_halve_2 rfl rfl ?_
  refine go_iald dX7_halve_3 rfl (by decide) rfl (by decide) (by decide) rfl ?_
  refine go_aload_n dX7_halve_4 rfl ?_
  refine go_geti dX7_halve_5 fX7_88 rfl (by decide) (by decide) (by decide) rfl hN ?_
  refine go_iconst (nI 3) dX7_halve_8 (by decide +kernel) ?_
  refine go_icmp_ne 22 dX7_halve_9 (by decide) (fun h9 => ?_) (fun h9 => ?_)
  · have hz : ¬ N = 3 := fun z => h9 (by rw [z])
    have ev : m.1 52 5 ||| nI 0 = m.1 52 5 ||| (if N = 3 then m.1 52 3 &&& m.1 52 4 else nI 0) := by rw [if_neg hz]
    refine go_iconst (nI 0) dX7_halve_22 (by decide +kernel) ?_
    refine go_ior dX7_halve_23 ev ?_
    refine go_iast dX7_halve_24 rfl (by decide) rfl (by decide) (by decide) ?_
    exact go_vret dX7_halve_25 rfl rfl (by rw [gup_asA]; rfl)
  · have hz : N = 3 := (nI_eq (by omega) (by omega)).mp h9
    have ev : m.1 52 5 ||| (m.1 52 3 &&& m.1 52 4) = m.1 52 5 ||| (if N = 3 then m.1 52 3 &&& m.1 52 4 else nI 0) := by rw [if_pos hz]
    refine go_aload_n dX7_halve_12 rfl ?_
    refine go_iconst (nI 3) dX7_halve_13 (by decide +kernel) ?_
    refine go_iald dX7_halve_14 rfl (by decide) rfl (by decide) (by decide) rfl ?_
    refine go_aload_n dX7_halve_15 rfl ?_
    refine go_iconst (nI 4) dX7_halve_16 (by decide +kernel) ?_
    refine go_iald dX7_halve_17 rfl (by decide) rfl (by decide) (by decide) rfl ?_
    refine go_iand dX7_halve_18 rfl ?_
    refine go_goto 23 dX7_halve_19 (by decide) ?_
    refine go_ior dX7_halve_23 ev ?_
    refine go_iast dX7_halve_24 rfl (by decide) rfl (by decide) (by decide) ?_
    exact go_vret dX7_halve_25 rfl rfl (by rw [gup_asA]; rfl)
theorem c_mayTell_52 {O : gOm} {d : Nat} {m : gMem} {P h p n kn lw : Nat} {av : Option Nat} (hP : m.1 46 4 = nI P) (hP6 : P ≤ 6) (hh : h < 6) (hp : p < P) (hn : n < 3) (hkn : m.1 52 (3 + n) = nI kn) (hk : kn < 64) (hav : m.1 48 (6 * p + h) = oI (-9) av) (ha3 : ∀ a, av = some a → a < 3) (hlw : m.1 46 6 = nI lw) (hl : lw < 3) : Ca O (d + 1) kX7_mayTell [.ref 46, .ref 52, .int (nI h), .int (nI p), .int (nI n)] (some (.int (bI (mT (kn.testBit p) (gOf (grp (m.1 48) P h) av) (m.1 52 n) (m.1 49 n) lw (m.1 52 (6 + 6 * n + p)) (plOf (m.1 52) n av))))) m m := by
  show Go O (d + 1) kX7_mayTell _ m 0 [.ref 46, .ref 52, .int (nI h), .int (nI p), .int (nI n), .null] [] m
  cases av with
  | none =>
    have er : bI (mT (kn.testBit p) (gOf (grp (m.1 48) P h) none) (m.1 52 n) (m.1 49 n) lw (m.1 52 (6 + 6 * n + p)) (plOf (m.1 52) n none)) = nI 0 := by
      have z : pc6 0 = 0 := by decide +kernel
      simp [mT, gOf, z, bI]
    refine go_aload_n dX7_mayTell_0 rfl ?_
    refine go_getc dX7_mayTell_1 fX7_13 rfl (by decide) (by decide) (by decide) rfl ?_
    refine go_bipush (nI 6) dX7_mayTell_4 (by decide +kernel) ?_
    refine go_iload_n dX7_mayTell_6 rfl ?_
    first | refine go_imul_n dX7_mayTell_7 ?_ | refine go_imul dX7_mayTell_7 rfl ?_
    refine go_iload_n dX7_mayTell_8 rfl ?_
    first | refine go_iadd_n dX7_mayTell_9 ?_ | refine go_iadd dX7_mayTell_9 rfl ?_
    refine go_iald dX7_mayTell_10 rfl (by decide) rfl (by omega) (by decide) hav ?_
    refine go_istore (L' := [_, _, _, _, _, _]) dX7_mayTell_11 (by decide) rfl ?_
    refine go_aload_n dX7_mayTell_13 rfl ?_
    refine go_iconst (nI 3) dX7_mayTell_14 (by decide +kernel) ?_
    refine go_iload dX7_mayTell_15 rfl ?_
    first | refine go_iadd_n dX7_mayTell_17 ?_ | refine go_iadd dX7_mayTell_17 rfl ?_
    refine go_iald dX7_mayTell_18 rfl (by decide) rfl (by omega) (by decide) hkn ?_
    refine go_iload_n dX7_mayTell_19 rfl ?_
    refine go_callS1 (K' := kX7_has) [_, _] dX7_mayTell_20 mX7_109 lX7_has rfl rfl (Nat.le_of_ble_eq_true rfl) (Nat.le_of_ble_eq_true rfl) (c_has (by omega) (by omega)) ?_
    refine go_if_eq 61 dX7_mayTell_23 (by decide) (fun h23 => ?_) (fun h23 => ?_)
    · refine go_iconst (nI 0) dX7_mayTell_61 (by decide +kernel) ?_
      exact go_zret dX7_mayTell_62 rfl (by first | exact Or.inl rfl | exact Or.inr rfl) (by rw [er]) rfl
    · refine go_iload dX7_mayTell_26 rfl ?_
      refine go_bipush (-9) dX7_mayTell_28 (by decide +kernel) ?_
      refine go_icmp_eq 61 dX7_mayTell_30 (by decide) (fun h30 => ?_) (fun h => absurd (rfl) h)
      refine go_iconst (nI 0) dX7_mayTell_61 (by decide +kernel) ?_
      exact go_zret dX7_mayTell_62 rfl (by first | exact Or.inl rfl | exact Or.inr rfl) (by rw [er]) rfl
  | some a =>
    have ha := ha3 a rfl
    replace hav : m.1 48 (6 * p + h) = nI a := hav
    have hg := grp_64 (m.1 48) h a hP6
    have hq := pc6_le (grp (m.1 48) P h a)
    generalize hB : mT (kn.testBit p) (gOf (grp (m.1 48) P h) (some a)) (m.1 52 n) (m.1 49 n) lw (m.1 52 (6 + 6 * n + p)) (plOf (m.1 52) n (some a)) = B
    have hB := hB.symm
    simp only [mT, gOf, plOf] at hB
    refine go_aload_n dX7_mayTell_0 rfl ?_
    refine go_getc dX7_mayTell_1 fX7_13 rfl (by decide) (by decide) (by decide) rfl ?_
    refine go_bipush (nI 6) dX7_mayTell_4 (by decide +kernel) ?_
    refine go_iload_n dX7_mayTell_6 rfl ?_
    first | refine go_imul_n dX7_mayTell_7 ?_ | refine go_imul dX7_mayTell_7 rfl ?_
    refine go_iload_n dX7_mayTell_8 rfl ?_
    first | refine go_iadd_n dX7_mayTell_9 ?_ | refine go_iadd dX7_mayTell_9 rfl ?_
    refine go_iald dX7_mayTell_10 rfl (by decide) rfl (by omega) (by decide) hav ?_
    refine go_istore (L' := [_, _, _, _, _, _]) dX7_mayTell_11 (by decide) rfl ?_
    refine go_aload_n dX7_mayTell_13 rfl ?_
    refine go_iconst (nI 3) dX7_mayTell_14 (by decide +kernel) ?_
    refine go_iload dX7_mayTell_15 rfl ?_
    first | refine go_iadd_n dX7_mayTell_17 ?_ | refine go_iadd dX7_mayTell_17 rfl ?_
    refine go_iald dX7_mayTell_18 rfl (by decide) rfl (by omega) (by decide) hkn ?_
    refine go_iload_n dX7_mayTell_19 rfl ?_
    refine go_callS1 (K' := kX7_has) [_, _] dX7_mayTell_20 mX7_109 lX7_has rfl rfl (Nat.le_of_ble_eq_true rfl) (Nat.le_of_ble_eq_true rfl) (c_has (by omega) (by omega)) ?_
    refine go_if_eq 61 dX7_mayTell_23 (by decide) (fun h23 => ?_) (fun h23 => ?_)
    · have er : B = false := by rw [hB, bI_0.mp h23]; rfl
      refine go_iconst (nI 0) dX7_mayTell_61 (by decide +kernel) ?_
      exact go_zret dX7_mayTell_62 rfl (by first | exact Or.inl rfl | exact Or.inr rfl) (by rw [er]; rfl) rfl
    · have e1 := bI_n0.mp h23
      refine go_iload dX7_mayTell_26 rfl ?_
      refine go_bipush (-9) dX7_mayTell_28 (by decide +kernel) ?_
      refine go_icmp_eq 61 dX7_mayTell_30 (by decide) (fun h => absurd h (nI_n9 (by omega))) (fun h30 => ?_)
      refine go_aload_n dX7_mayTell_33 rfl ?_
      refine go_iload dX7_mayTell_34 rfl ?_
      refine go_iload_n dX7_mayTell_36 rfl ?_
      refine go_callV1 (K' := kX7_those) [_, _] dX7_mayTell_37 mX7_158 lX7_those rfl (by decide) rfl (by decide) rfl rfl (Nat.le_of_ble_eq_true rfl) (Nat.le_of_ble_eq_true rfl) (c_grp hP hP6 hh) ?_
      refine go_callS1 (K' := kX7_many) [_] dX7_mayTell_40 mX7_143 lX7_many rfl rfl (Nat.le_of_ble_eq_true rfl) (Nat.le_of_ble_eq_true rfl) (c_many (by omega)) ?_
      refine go_iconst (nI 2) dX7_mayTell_43 (by decide +kernel) ?_
      refine go_icmp_lt 61 dX7_mayTell_44 (by decide) (fun h44 => ?_) (fun h44 => ?_)
      · have er : B = false := by
          have e2 : ¬ 1 < pc6 (grp (m.1 48) P h a) := by
            have := (nI_ltI (by omega) (by omega)).mp h44
            omega
          rw [hB]
          simp [e2]
        refine go_iconst (nI 0) dX7_mayTell_61 (by decide +kernel) ?_
        exact go_zret dX7_mayTell_62 rfl (by first | exact Or.inl rfl | exact Or.inr rfl) (by rw [er]; rfl) rfl
      · have e2 : 1 < pc6 (grp (m.1 48) P h a) := by
          rcases Nat.lt_or_ge 1 (pc6 (grp (m.1 48) P h a)) with z | z
          · exact z
          · exact absurd (nI_lt (by omega) (by omega)) h44
        refine go_aload_n dX7_mayTell_47 rfl ?_
        refine go_iload dX7_mayTell_48 rfl ?_
        refine go_iald dX7_mayTell_50 rfl (by decide) rfl (by omega) (by decide) rfl ?_
        refine go_aload_n dX7_mayTell_51 rfl ?_
        refine go_getc dX7_mayTell_52 fX7_16 rfl (by decide) (by decide) (by decide) rfl ?_
        refine go_iload dX7_mayTell_55 rfl ?_
        refine go_iald dX7_mayTell_57 rfl (by decide) rfl (by omega) (by decide) rfl ?_
        refine go_icmp_lt 63 dX7_mayTell_58 (by decide) (fun h58 => ?_) (fun h58 => ?_)
        · refine go_aload_n dX7_mayTell_63 rfl ?_
          refine go_geti dX7_mayTell_64 fX7_130 rfl (by decide) (by decide) (by decide) rfl hlw ?_
          refine go_iconst (nI 1) dX7_mayTell_67 (by decide +kernel) ?_
          refine go_icmp_ne 92 dX7_mayTell_68 (by decide) (fun h68 => ?_) (fun h68 => ?_)
          · have z1 : ¬ lw = 1 := fun z => h68 (by rw [z])
            refine go_aload_n dX7_mayTell_92 rfl ?_
            refine go_geti dX7_mayTell_93 fX7_130 rfl (by decide) (by decide) (by decide) rfl hlw ?_
            refine go_iconst (nI 2) dX7_mayTell_96 (by decide +kernel) ?_
            refine go_icmp_ne 116 dX7_mayTell_97 (by decide) (fun h97 => ?_) (fun h97 => ?_)
            · have z2 : ¬ lw = 2 := fun z => h97 (by rw [z])
              have er : B = true := by
                rw [hB, e1]
                simp [e2, h58, z1, z2]
              refine go_iconst (nI 1) dX7_mayTell_116 (by decide +kernel) ?_
              refine go_goto 121 dX7_mayTell_117 (by decide) ?_
              exact go_zret dX7_mayTell_121 rfl (by first | exact Or.inl rfl | exact Or.inr rfl) (by rw [er]; rfl) rfl
            · have z2 : lw = 2 := (nI_eq (by omega) (by omega)).mp h97
              refine go_aload_n dX7_mayTell_100 rfl ?_
              refine go_bipush (nI 42) dX7_mayTell_101 (by decide +kernel) ?_
              refine go_iconst (nI 3) dX7_mayTell_103 (by decide +kernel) ?_
              refine go_iload dX7_mayTell_104 rfl ?_
              first | refine go_imul_n dX7_mayTell_106 ?_ | refine go_imul dX7_mayTell_106 rfl ?_
              first | refine go_iadd_n dX7_mayTell_107 ?_ | refine go_iadd dX7_mayTell_107 rfl ?_
              refine go_iload dX7_mayTell_108 rfl ?_
              first | refine go_iadd_n dX7_mayTell_110 ?_ | refine go_iadd dX7_mayTell_110 rfl ?_
              refine go_iald dX7_mayTell_111 rfl (by decide) rfl (by omega) (by decide) rfl ?_
              refine go_iconst (nI 3) dX7_mayTell_112 (by decide +kernel) ?_
              refine go_icmp_ge 120 dX7_mayTell_113 (by decide) (fun h113 => ?_) (fun h113 => ?_)
              · have er : B = false := by
                  rw [hB, e1]
                  have z3 : ¬ m.1 52 (42 + 3 * n + a) < 3 := Int32.not_lt.mpr h113
                  simp [e2, h58, z1, z2, z3]
                refine go_iconst (nI 0) dX7_mayTell_120 (by decide +kernel) ?_
                exact go_zret dX7_mayTell_121 rfl (by first | exact Or.inl rfl | exact Or.inr rfl) (by rw [er]; rfl) rfl
              · have er : B = true := by
                  rw [hB, e1]
                  have z3 : m.1 52 (42 + 3 * n + a) < 3 := Int32.not_le.mp h113
                  simp [e2, h58, z1, z2, z3]
                refine go_iconst (nI 1) dX7_mayTell_116 (by decide +kernel) ?_
                refine go_goto 121 dX7_mayTell_117 (by decide) ?_
                exact go_zret dX7_mayTell_121 rfl (by first | exact Or.inl rfl | exact Or.inr rfl) (by rw [er]; rfl) rfl
          · have z1 : lw = 1 := (nI_eq (by omega) (by omega)).mp h68
            refine go_aload_n dX7_mayTell_71 rfl ?_
            refine go_bipush (nI 6) dX7_mayTell_72 (by decide +kernel) ?_
            refine go_bipush (nI 6) dX7_mayTell_74 (by decide +kernel) ?_
            refine go_iload dX7_mayTell_76 rfl ?_
            first | refine go_imul_n dX7_mayTell_78 ?_ | refine go_imul dX7_mayTell_78 rfl ?_
            first | refine go_iadd_n dX7_mayTell_79 ?_ | refine go_iadd dX7_mayTell_79 rfl ?_
            refine go_iload_n dX7_mayTell_80 rfl ?_
            first | refine go_iadd_n dX7_mayTell_81 ?_ | refine go_iadd dX7_mayTell_81 rfl ?_
            refine go_iald dX7_mayTell_82 rfl (by decide) rfl (by omega) (by decide) rfl ?_
            refine go_if_ne 90 dX7_mayTell_83 (by decide) (fun h83 => ?_) (fun h83 => ?_)
            · have er : B = false := by
                rw [hB, e1]
                simp [e2, h58, z1, show ¬ m.1 52 (6 + 6 * n + p) = 0 from h83]
              refine go_iconst (nI 0) dX7_mayTell_90 (by decide +kernel) ?_
              exact go_zret dX7_mayTell_91 rfl (by first | exact Or.inl rfl | exact Or.inr rfl) (by rw [er]; rfl) rfl
            · have er : B = true := by
                rw [hB, e1]
                simp [e2, h58, z1, show m.1 52 (6 + 6 * n + p) = 0 from h83]
              refine go_iconst (nI 1) dX7_mayTell_86 (by decide +kernel) ?_
              refine go_goto 91 dX7_mayTell_87 (by decide) ?_
              exact go_zret dX7_mayTell_91 rfl (by first | exact Or.inl rfl | exact Or.inr rfl) (by rw [er]; rfl) rfl
        · have er : B = false := by
            rw [hB]
            simp [show ¬ m.1 52 n < m.1 49 n from h58]
          refine go_iconst (nI 0) dX7_mayTell_61 (by decide +kernel) ?_
          exact go_zret dX7_mayTell_62 rfl (by first | exact Or.inl rfl | exact Or.inr rfl) (by rw [er]; rfl) rfl
theorem c_halve_60 {O : gOm} {d : Nat} {m : gMem} {N : Nat} (hN : m.1 46 5 = nI N) (hN3 : N ≤ 3) : Ca O d kX7_halve [.ref 46, .ref 60] none m (gupA m 60 (hvP (m.1 60) N)) := by
  show Go O d kX7_halve none _ 0 [.ref 46, .ref 60] [] m
  refine go_aload_n dX7_halve_0 rfl ?_
  refine go_iconst (nI 5) dX7_halve_1 (by decide +kernel) ?_
  refine go_dup2 dX7_halve_2 rfl rfl ?_
  refine go_iald dX7_halve_3 rfl (by decide) rfl (by decide) (by decide) rfl ?_
  refine go_aload_n dX7_halve_4 rfl ?_
  refine go_geti dX7_halve_5 fX7_88 rfl (by decide) (by decide) (by decide) rfl hN ?_
  refine go_iconst (nI 3) dX7_halve_8 (by decide +kernel) ?_
  refine go_icmp_ne 22 dX7_halve_9 (by decide) (fun h9 => ?_) (fun h9 => ?_)
  · have hz : ¬ N = 3 := fun z => h9 (by rw [z])
    have ev : m.1 60 5 ||| nI 0 = m.1 60 5 ||| (if N = 3 then m.1 60 3 &&& m.1 60 4 else nI 0) := by rw [if_neg hz]
    refine go_iconst (nI 0) dX7_halve_22 (by decide +kernel) ?_
    refine go_ior dX7_halve_23 ev ?_
    refine go_iast dX7_halve_24 rfl (by decide) rfl (by decide) (by decide) ?_
    exact go_vret dX7_halve_25 rfl rfl (by rw [gup_asA]; rfl)
  · have hz : N = 3 := (nI_eq (by omega) (by omega)).mp h9
    have ev : m.1 60 5 ||| (m.1 60 3 &&& m.1 60 4) = m.1 60 5 ||| (if N = 3 then m.1 60 3 &&& m.1 60 4 else nI 0) := by rw [if_pos hz]
    refine go_aload_n dX7_halve_12 rfl ?_
    refine go_iconst (nI 3) dX7_halve_13 (by decide +kernel) ?_
    refine go_iald dX7_halve_14 rfl (by decide) rfl (by decide) (by decide) rfl ?_
    refine go_aload_n dX7_halve_15 rfl ?_
    refine go_iconst (nI 4) dX7_halve_16 (by decide +kernel) ?_
    refine go_iald dX7_halve_17 rfl (by decide) rfl (by decide) (by decide) rfl ?_
    refine go_iand dX7_halve_18 rfl ?_
    refine go_goto 23 dX7_halve_19 (by decide) ?_
    refine go_ior dX7_halve_23 ev ?_
    refine go_iast dX7_halve_24 rfl (by decide) rfl (by decide) (by decide) ?_
    exact go_vret dX7_halve_25 rfl rfl (by rw [gup_asA]; rfl)
theorem c_mayTell_60 {O : gOm} {d : Nat} {m : gMem} {P h p n kn lw : Nat} {av : Option Nat} (hP : m.1 46 4 = nI P) (hP6 : P ≤ 6) (hh : h < 6) (hp : p < P) (hn : n < 3) (hkn : m.1 60 (3 + n) = nI kn) (hk : kn < 64) (hav : m.1 48 (6 * p + h) = oI (-9) av) (ha3 : ∀ a, av = some a → a < 3) (hlw : m.1 46 6 = nI lw) (hl : lw < 3) : Ca O (d + 1) kX7_mayTell [.ref 46, .ref 60, .int (nI h), .int (nI p), .int (nI n)] (some (.int (bI (mT (kn.testBit p) (gOf (grp (m.1 48) P h) av) (m.1 60 n) (m.1 49 n) lw (m.1 60 (6 + 6 * n + p)) (plOf (m.1 60) n av))))) m m := by
  show Go O (d + 1) kX7_mayTell _ m 0 [.ref 46, .ref 60, .int (nI h), .int (nI p), .int (nI n), .null] [] m
  cases av with
  | none =>
    have er : bI (mT (kn.testBit p) (gOf (grp (m.1 48) P h) none) (m.1 60 n) (m.1 49 n) lw (m.1 60 (6 + 6 * n + p)) (plOf (m.1 60) n none)) = nI 0 := by
      have z : pc6 0 = 0 := by decide +kernel
      simp [mT, gOf, z, bI]
    refine go_aload_n dX7_mayTell_0 rfl ?_
    refine go_getc dX7_mayTell_1 fX7_13 rfl (by decide) (by decide) (by decide) rfl ?_
    refine go_bipush (nI 6) dX7_mayTell_4 (by decide +kernel) ?_
    refine go_iload_n dX7_mayTell_6 rfl ?_
    first | refine go_imul_n dX7_mayTell_7 ?_ | refine go_imul dX7_mayTell_7 rfl ?_
    refine go_iload_n dX7_mayTell_8 rfl ?_
    first | refine go_iadd_n dX7_mayTell_9 ?_ | refine go_iadd dX7_mayTell_9 rfl ?_
    refine go_iald dX7_mayTell_10 rfl (by decide) rfl (by omega) (by decide) hav ?_
    refine go_istore (L' := [_, _, _, _, _, _]) dX7_mayTell_11 (by decide) rfl ?_
    refine go_aload_n dX7_mayTell_13 rfl ?_
    refine go_iconst (nI 3) dX7_mayTell_14 (by decide +kernel) ?_
    refine go_iload dX7_mayTell_15 rfl ?_
    first | refine go_iadd_n dX7_mayTell_17 ?_ | refine go_iadd dX7_mayTell_17 rfl ?_
    refine go_iald dX7_mayTell_18 rfl (by decide) rfl (by omega) (by decide) hkn ?_
    refine go_iload_n dX7_mayTell_19 rfl ?_
    refine go_callS1 (K' := kX7_has) [_, _] dX7_mayTell_20 mX7_109 lX7_has rfl rfl (Nat.le_of_ble_eq_true rfl) (Nat.le_of_ble_eq_true rfl) (c_has (by omega) (by omega)) ?_
    refine go_if_eq 61 dX7_mayTell_23 (by decide) (fun h23 => ?_) (fun h23 => ?_)
    · refine go_iconst (nI 0) dX7_mayTell_61 (by decide +kernel) ?_
      exact go_zret dX7_mayTell_62 rfl (by first | exact Or.inl rfl | exact Or.inr rfl) (by rw [er]) rfl
    · refine go_iload dX7_mayTell_26 rfl ?_
      refine go_bipush (-9) dX7_mayTell_28 (by decide +kernel) ?_
      refine go_icmp_eq 61 dX7_mayTell_30 (by decide) (fun h30 => ?_) (fun h => absurd (rfl) h)
      refine go_iconst (nI 0) dX7_mayTell_61 (by decide +kernel) ?_
      exact go_zret dX7_mayTell_62 rfl (by first | exact Or.inl rfl | exact Or.inr rfl) (by rw [er]) rfl
  | some a =>
    have ha := ha3 a rfl
    replace hav : m.1 48 (6 * p + h) = nI a := hav
    have hg := grp_64 (m.1 48) h a hP6
    have hq := pc6_le (grp (m.1 48) P h a)
    generalize hB : mT (kn.testBit p) (gOf (grp (m.1 48) P h) (some a)) (m.1 60 n) (m.1 49 n) lw (m.1 60 (6 + 6 * n + p)) (plOf (m.1 60) n (some a)) = B
    have hB := hB.symm
    simp only [mT, gOf, plOf] at hB
    refine go_aload_n dX7_mayTell_0 rfl ?_
    refine go_getc dX7_mayTell_1 fX7_13 rfl (by decide) (by decide) (by decide) rfl ?_
    refine go_bipush (nI 6) dX7_mayTell_4 (by decide +kernel) ?_
    refine go_iload_n dX7_mayTell_6 rfl ?_
    first | refine go_imul_n dX7_mayTell_7 ?_ | refine go_imul dX7_mayTell_7 rfl ?_
    refine go_iload_n dX7_mayTell_8 rfl ?_
    first | refine go_iadd_n dX7_mayTell_9 ?_ | refine go_iadd dX7_mayTell_9 rfl ?_
    refine go_iald dX7_mayTell_10 rfl (by decide) rfl (by omega) (by decide) hav ?_
    refine go_istore (L' := [_, _, _, _, _, _]) dX7_mayTell_11 (by decide) rfl ?_
    refine go_aload_n dX7_mayTell_13 rfl ?_
    refine go_iconst (nI 3) dX7_mayTell_14 (by decide +kernel) ?_
    refine go_iload dX7_mayTell_15 rfl ?_
    first | refine go_iadd_n dX7_mayTell_17 ?_ | refine go_iadd dX7_mayTell_17 rfl ?_
    refine go_iald dX7_mayTell_18 rfl (by decide) rfl (by omega) (by decide) hkn ?_
    refine go_iload_n dX7_mayTell_19 rfl ?_
    refine go_callS1 (K' := kX7_has) [_, _] dX7_mayTell_20 mX7_109 lX7_has rfl rfl (Nat.le_of_ble_eq_true rfl) (Nat.le_of_ble_eq_true rfl) (c_has (by omega) (by omega)) ?_
    refine go_if_eq 61 dX7_mayTell_23 (by decide) (fun h23 => ?_) (fun h23 => ?_)
    · have er : B = false := by rw [hB, bI_0.mp h23]; rfl
      refine go_iconst (nI 0) dX7_mayTell_61 (by decide +kernel) ?_
      exact go_zret dX7_mayTell_62 rfl (by first | exact Or.inl rfl | exact Or.inr rfl) (by rw [er]; rfl) rfl
    · have e1 := bI_n0.mp h23
      refine go_iload dX7_mayTell_26 rfl ?_
      refine go_bipush (-9) dX7_mayTell_28 (by decide +kernel) ?_
      refine go_icmp_eq 61 dX7_mayTell_30 (by decide) (fun h => absurd h (nI_n9 (by omega))) (fun h30 => ?_)
      refine go_aload_n dX7_mayTell_33 rfl ?_
      refine go_iload dX7_mayTell_34 rfl ?_
      refine go_iload_n dX7_mayTell_36 rfl ?_
      refine go_callV1 (K' := kX7_those) [_, _] dX7_mayTell_37 mX7_158 lX7_those rfl (by decide) rfl (by decide) rfl rfl (Nat.le_of_ble_eq_true rfl) (Nat.le_of_ble_eq_true rfl) (c_grp hP hP6 hh) ?_
      refine go_callS1 (K' := kX7_many) [_] dX7_mayTell_40 mX7_143 lX7_many rfl rfl (Nat.le_of_ble_eq_true rfl) (Nat.le_of_ble_eq_true rfl) (c_many (by omega)) ?_
      refine go_iconst (nI 2) dX7_mayTell_43 (by decide +kernel) ?_
      refine go_icmp_lt 61 dX7_mayTell_44 (by decide) (fun h44 => ?_) (fun h44 => ?_)
      · have er : B = false := by
          have e2 : ¬ 1 < pc6 (grp (m.1 48) P h a) := by
            have := (nI_ltI (by omega) (by omega)).mp h44
            omega
          rw [hB]
          simp [e2]
        refine go_iconst (nI 0) dX7_mayTell_61 (by decide +kernel) ?_
        exact go_zret dX7_mayTell_62 rfl (by first | exact Or.inl rfl | exact Or.inr rfl) (by rw [er]; rfl) rfl
      · have e2 : 1 < pc6 (grp (m.1 48) P h a) := by
          rcases Nat.lt_or_ge 1 (pc6 (grp (m.1 48) P h a)) with z | z
          · exact z
          · exact absurd (nI_lt (by omega) (by omega)) h44
        refine go_aload_n dX7_mayTell_47 rfl ?_
        refine go_iload dX7_mayTell_48 rfl ?_
        refine go_iald dX7_mayTell_50 rfl (by decide) rfl (by omega) (by decide) rfl ?_
        refine go_aload_n dX7_mayTell_51 rfl ?_
        refine go_getc dX7_mayTell_52 fX7_16 rfl (by decide) (by decide) (by decide) rfl ?_
        refine go_iload dX7_mayTell_55 rfl ?_
        refine go_iald dX7_mayTell_57 rfl (by decide) rfl (by omega) (by decide) rfl ?_
        refine go_icmp_lt 63 dX7_mayTell_58 (by decide) (fun h58 => ?_) (fun h58 => ?_)
        · refine go_aload_n dX7_mayTell_63 rfl ?_
          refine go_geti dX7_mayTell_64 fX7_130 rfl (by decide) (by decide) (by decide) rfl hlw ?_
          refine go_iconst (nI 1) dX7_mayTell_67 (by decide +kernel) ?_
          refine go_icmp_ne 92 dX7_mayTell_68 (by decide) (fun h68 => ?_) (fun h68 => ?_)
          · have z1 : ¬ lw = 1 := fun z => h68 (by rw [z])
            refine go_aload_n dX7_mayTell_92 rfl ?_
            refine go_geti dX7_mayTell_93 fX7_130 rfl (by decide) (by decide) (by decide) rfl hlw ?_
            refine go_iconst (nI 2) dX7_mayTell_96 (by decide +kernel) ?_
            refine go_icmp_ne 116 dX7_mayTell_97 (by decide) (fun h97 => ?_) (fun h97 => ?_)
            · have z2 : ¬ lw = 2 := fun z => h97 (by rw [z])
              have er : B = true := by
                rw [hB, e1]
                simp [e2, h58, z1, z2]
              refine go_iconst (nI 1) dX7_mayTell_116 (by decide +kernel) ?_
              refine go_goto 121 dX7_mayTell_117 (by decide) ?_
              exact go_zret dX7_mayTell_121 rfl (by first | exact Or.inl rfl | exact Or.inr rfl) (by rw [er]; rfl) rfl
            · have z2 : lw = 2 := (nI_eq (by omega) (by omega)).mp h97
              refine go_aload_n dX7_mayTell_100 rfl ?_
              refine go_bipush (nI 42) dX7_mayTell_101 (by decide +kernel) ?_
              refine go_iconst (nI 3) dX7_mayTell_103 (by decide +kernel) ?_
              refine go_iload dX7_mayTell_104 rfl ?_
              first | refine go_imul_n dX7_mayTell_106 ?_ | refine go_imul dX7_mayTell_106 rfl ?_
              first | refine go_iadd_n dX7_mayTell_107 ?_ | refine go_iadd dX7_mayTell_107 rfl ?_
              refine go_iload dX7_mayTell_108 rfl ?_
              first | refine go_iadd_n dX7_mayTell_110 ?_ | refine go_iadd dX7_mayTell_110 rfl ?_
              refine go_iald dX7_mayTell_111 rfl (by decide) rfl (by omega) (by decide) rfl ?_
              refine go_iconst (nI 3) dX7_mayTell_112 (by decide +kernel) ?_
              refine go_icmp_ge 120 dX7_mayTell_113 (by decide) (fun h113 => ?_) (fun h113 => ?_)
              · have er : B = false := by
                  rw [hB, e1]
                  have z3 : ¬ m.1 60 (42 + 3 * n + a) < 3 := Int32.not_lt.mpr h113
                  simp [e2, h58, z1, z2, z3]
                refine go_iconst (nI 0) dX7_mayTell_120 (by decide +kernel) ?_
                exact go_zret dX7_mayTell_121 rfl (by first | exact Or.inl rfl | exact Or.inr rfl) (by rw [er]; rfl) rfl
              · have er : B = true := by
                  rw [hB, e1]
                  have z3 : m.1 60 (42 + 3 * n + a) < 3 := Int32.not_le.mp h113
                  simp [e2, h58, z1, z2, z3]
                refine go_iconst (nI 1) dX7_mayTell_116 (by decide +kernel) ?_
                refine go_goto 121 dX7_mayTell_117 (by decide) ?_
                exact go_zret dX7_mayTell_121 rfl (by first | exact Or.inl rfl | exact Or.inr rfl) (by rw [er]; rfl) rfl
          · have z1 : lw = 1 := (nI_eq (by omega) (by omega)).mp h68
            refine go_aload_n dX7_mayTell_71 rfl ?_
            refine go_bipush (nI 6) dX7_mayTell_72 (by decide +kernel) ?_
            refine go_bipush (nI 6) dX7_mayTell_74 (by decide +kernel) ?_
            refine go_iload dX7_mayTell_76 rfl ?_
            first | refine go_imul_n dX7_mayTell_78 ?_ | refine go_imul dX7_mayTell_78 rfl ?_
            first | refine go_iadd_n dX7_mayTell_79 ?_ | refine go_iadd dX7_mayTell_79 rfl ?_
            refine go_iload_n dX7_mayTell_80 rfl ?_
            first | refine go_iadd_n dX7_mayTell_81 ?_ | refine go_iadd dX7_mayTell_81 rfl ?_
            refine go_iald dX7_mayTell_82 rfl (by decide) rfl (by omega) (by decide) rfl ?_
            refine go_if_ne 90 dX7_mayTell_83 (by decide) (fun h83 => ?_) (fun h83 => ?_)
            · have er : B = false := by
                rw [hB, e1]
                simp [e2, h58, z1, show ¬ m.1 60 (6 + 6 * n + p) = 0 from h83]
              refine go_iconst (nI 0) dX7_mayTell_90 (by decide +kernel) ?_
              exact go_zret dX7_mayTell_91 rfl (by first | exact Or.inl rfl | exact Or.inr rfl) (by rw [er]; rfl) rfl
            · have er : B = true := by
                rw [hB, e1]
                simp [e2, h58, z1, show m.1 60 (6 + 6 * n + p) = 0 from h83]
              refine go_iconst (nI 1) dX7_mayTell_86 (by decide +kernel) ?_
              refine go_goto 91 dX7_mayTell_87 (by decide) ?_
              exact go_zret dX7_mayTell_91 rfl (by first | exact Or.inl rfl | exact Or.inr rfl) (by rw [er]; rfl) rfl
        · have er : B = false := by
            rw [hB]
            simp [show ¬ m.1 60 n < m.1 49 n from h58]
          refine go_iconst (nI 0) dX7_mayTell_61 (by decide +kernel) ?_
          exact go_zret dX7_mayTell_62 rfl (by first | exact Or.inl rfl | exact Or.inr rfl) (by rw [er]; rfl) rfl
