theorem pc6_0 : pc6 0 = 0 := by decide +kernel
theorem mT_0 (kp : Bool) (told lim : Int32) (lw : Nat) (tl pl : Int32) : mT kp 0 told lim lw tl pl = false := by simp [mT, pc6_0]
theorem mT_k (g : Nat) (told lim : Int32) (lw : Nat) (tl pl : Int32) : mT false g told lim lw tl pl = false := by simp [mT]
theorem mT_g {g : Nat} (kp : Bool) (told lim : Int32) (lw : Nat) (tl pl : Int32) (h : ¬ 1 < pc6 g) : mT kp g told lim lw tl pl = false := by simp [mT, h]
theorem mT_l {told lim : Int32} (kp : Bool) (g : Nat) (lw : Nat) (tl pl : Int32) (h : ¬ told < lim) : mT kp g told lim lw tl pl = false := by simp [mT, h]
theorem mT_v {g : Nat} {told lim : Int32} (lw : Nat) (tl pl : Int32) (h1 : 1 < pc6 g) (h2 : told < lim) : mT true g told lim lw tl pl = (if lw = 1 then decide (tl = 0) else if lw = 2 then decide (pl < 3) else true) := by simp [mT, h1, h2]
/-- counts of a telling, or of one taken back -/
def atX (f : Nat → Int32) (n G : Nat) (st : Int32) : Nat → Nat → Int32
  | 0 => f
  | q + 1 => upd (atX f n G st q) (q * 3 + n) (atX f n G st q (q * 3 + n) + nI (G / 2 ^ q % 2) * st)
def ctA (m : gMem) (s p n : Nat) (st : Int32) : gMem := gupA m (s + 2) (upd (m.1 (s + 2)) (p * 3 + n) (m.1 (s + 2) (p * 3 + n) + st))
def ctB (m : gMem) (s p n a : Nat) (st : Int32) : gMem := gupA (ctA m s p n st) (s + 4) (upd (m.1 (s + 4)) (n * 3 + a) (m.1 (s + 4) (n * 3 + a) + st))
def ctM (m : gMem) (s p n a G P : Nat) (st : Int32) : gMem := gupA (ctB m s p n a st) (s + 3) (atX (m.1 (s + 3)) n G st P)
def jhP (f : Nat → Int32) (N : Nat) : Nat → Int32 := if N = 3 then upd f 2 (f 2 ||| (f 0 &&& f 1)) else f
theorem nk_eq : ∀ a, a < 64 → ∀ b, b < 64 → nI a &&& (nI b ^^^ (-1)) = nI (a &&& (b ^^^ 63)) := by decide +kernel
theorem c_allows_3_29 {O : gOm} {d : Nat} {m : gMem} {P h p n k G lw : Nat} {av : Option Nat} {told lim tl pl : Int32} (hh : m.1 3 4 = nI h) (h6 : h < 6) (hp : p < 6) (hn : n < 3) (hk : k < 64) (hkn : m.1 4 n = nI k) (hpl : m.1 30 (p * 6 + h) = oI (-9) av) (ha3 : ∀ a, av = some a → a < 3 ∧ m.1 31 (h * 3 + a) = nI G ∧ m.1 7 (n * 3 + a) = pl) (hG0 : av = none → G = 0) (hG : G < 64) (htd : nI 0 + m.1 7 (n * 3 + 0) + m.1 7 (n * 3 + 1) + m.1 7 (n * 3 + 2) = told) (hlm : m.1 32 n = lim) (htl : m.1 5 (p * 3 + n) = tl) (hlw : m.1 29 7 = nI lw) (hl3 : lw < 3) : Ca O (d + 2) kX5_allows [.ref 3, .ref 29, .int (nI p), .int (nI n)] (some (.int (bI (mT (k.testBit p) G told lim lw tl pl)))) m m := by
  have hq := pc6_le G
  show Go O (d + 2) kX5_allows _ m 0 [.ref 3, .ref 29, .int (nI p), .int (nI n), .null] [] m
  cases av with
  | none =>
    obtain rfl := hG0 rfl
    refine go_aload_n dX5_allows_0 rfl ?_
    refine go_iload_n dX5_allows_1 rfl ?_
    refine go_aload_n dX5_allows_2 rfl ?_
    refine go_geti dX5_allows_3 fX5_41 rfl (by decide) (by decide) (by decide) rfl hh ?_
    refine go_callV1 (K' := kX1_placeOf) [_, _] dX5_allows_6 mX5_45 lX1_placeOf rfl (by decide) rfl (by decide) rfl rfl (Nat.le_of_ble_eq_true rfl) (Nat.le_of_ble_eq_true rfl) (c_placeOf_29 hp h6 hpl) ?_
    refine go_istore (L' := [_, _, _, _, _]) dX5_allows_9 (by decide) rfl ?_
    refine go_aload_n dX5_allows_11 rfl ?_
    refine go_iload_n dX5_allows_12 rfl ?_
    refine go_iload_n dX5_allows_13 rfl ?_
    refine go_callV1 (K' := kX5_knows) [_, _] dX5_allows_14 mX5_49 lX5_knows rfl (by decide) rfl (by decide) rfl rfl (Nat.le_of_ble_eq_true rfl) (Nat.le_of_ble_eq_true rfl) (c_knows_3 hp hn hk hkn) ?_
    refine go_if_eq 36 dX5_allows_17 (by decide) (fun h17 => ?_) (fun h17 => ?_)
    · refine go_iconst (nI 0) dX5_allows_36 (by decide +kernel) ?_
      exact go_zret dX5_allows_37 rfl (by first | exact Or.inl rfl | exact Or.inr rfl) (by rw [mT_0]; rfl) rfl
    · refine go_aload_n dX5_allows_20 rfl ?_
      refine go_aload_n dX5_allows_21 rfl ?_
      refine go_geti dX5_allows_22 fX5_41 rfl (by decide) (by decide) (by decide) rfl hh ?_
      refine go_iload dX5_allows_25 rfl ?_
      refine go_callV1 (K' := kX1_group) [_, _] dX5_allows_27 mX5_53 lX1_group rfl (by decide) rfl (by decide) rfl rfl (Nat.le_of_ble_eq_true rfl) (Nat.le_of_ble_eq_true rfl) (c_group9_29) ?_
      refine go_callS1 (K' := kX1_isCompany) [_] dX5_allows_30 mX5_56 lX1_isCompany rfl rfl (Nat.le_of_ble_eq_true rfl) (Nat.le_of_ble_eq_true rfl) (c_isCompany (by omega)) ?_
      refine go_if_ne 38 dX5_allows_33 (by decide) (fun h => absurd h (fun z => z (by decide +kernel))) (fun h33 => ?_)
      refine go_iconst (nI 0) dX5_allows_36 (by decide +kernel) ?_
      exact go_zret dX5_allows_37 rfl (by first | exact Or.inl rfl | exact Or.inr rfl) (by rw [mT_0]; rfl) rfl
  | some a =>
    obtain ⟨ha, hg, hpa⟩ := ha3 a rfl
    replace hpl : m.1 30 (p * 6 + h) = nI a := hpl
    generalize hB : mT (k.testBit p) G told lim lw tl pl = B
    refine go_aload_n dX5_allows_0 rfl ?_
    refine go_iload_n dX5_allows_1 rfl ?_
    refine go_aload_n dX5_allows_2 rfl ?_
    refine go_geti dX5_allows_3 fX5_41 rfl (by decide) (by decide) (by decide) rfl hh ?_
    refine go_callV1 (K' := kX1_placeOf) [_, _] dX5_allows_6 mX5_45 lX1_placeOf rfl (by decide) rfl (by decide) rfl rfl (Nat.le_of_ble_eq_true rfl) (Nat.le_of_ble_eq_true rfl) (c_placeOf_29 hp h6 hpl) ?_
    refine go_istore (L' := [_, _, _, _, _]) dX5_allows_9 (by decide) rfl ?_
    refine go_aload_n dX5_allows_11 rfl ?_
    refine go_iload_n dX5_allows_12 rfl ?_
    refine go_iload_n dX5_allows_13 rfl ?_
    refine go_callV1 (K' := kX5_knows) [_, _] dX5_allows_14 mX5_49 lX5_knows rfl (by decide) rfl (by decide) rfl rfl (Nat.le_of_ble_eq_true rfl) (Nat.le_of_ble_eq_true rfl) (c_knows_3 hp hn hk hkn) ?_
    refine go_if_eq 36 dX5_allows_17 (by decide) (fun h17 => ?_) (fun h17 => ?_)
    · have er : B = false := by rw [← hB, bI_0.mp h17, mT_k]
      refine go_iconst (nI 0) dX5_allows_36 (by decide +kernel) ?_
      exact go_zret dX5_allows_37 rfl (by first | exact Or.inl rfl | exact Or.inr rfl) (by rw [er]; rfl) rfl
    · have e1 := bI_n0.mp h17
      refine go_aload_n dX5_allows_20 rfl ?_
      refine go_aload_n dX5_allows_21 rfl ?_
      refine go_geti dX5_allows_22 fX5_41 rfl (by decide) (by decide) (by decide) rfl hh ?_
      refine go_iload dX5_allows_25 rfl ?_
      refine go_callV1 (K' := kX1_group) [_, _] dX5_allows_27 mX5_53 lX1_group rfl (by decide) rfl (by decide) rfl rfl (Nat.le_of_ble_eq_true rfl) (Nat.le_of_ble_eq_true rfl) (c_group_29 h6 ha hg) ?_
      refine go_callS1 (K' := kX1_isCompany) [_] dX5_allows_30 mX5_56 lX1_isCompany rfl rfl (Nat.le_of_ble_eq_true rfl) (Nat.le_of_ble_eq_true rfl) (c_isCompany hG) ?_
      refine go_if_ne 38 dX5_allows_33 (by decide) (fun h33 => ?_) (fun h33 => ?_)
      · have e2 : 1 < pc6 G := by simpa using bI_n0.mp h33
        refine go_aload_n dX5_allows_38 rfl ?_
        refine go_iload_n dX5_allows_39 rfl ?_
        refine go_callV1 (K' := kX5_tellingsOf) [_] dX5_allows_40 mX5_60 lX5_tellingsOf rfl (by decide) rfl (by decide) rfl rfl (Nat.le_of_ble_eq_true rfl) (Nat.le_of_ble_eq_true rfl) (c_tellingsOf_3 hn) ?_
        refine go_aload_n dX5_allows_43 rfl ?_
        refine go_getc dX5_allows_44 fX5_64 rfl (by decide) (by decide) (by decide) rfl ?_
        refine go_iload_n dX5_allows_47 rfl ?_
        refine go_iald dX5_allows_48 rfl (by decide) rfl (by omega) (by decide) hlm ?_
        refine go_icmp_lt 54 dX5_allows_49 (by decide) (fun h49 => ?_) (fun h49 => ?_)
        · rw [htd] at h49
          rw [e1, mT_v lw tl pl e2 h49] at hB
          refine go_aload_n dX5_allows_54 rfl ?_
          refine go_geti dX5_allows_55 fX5_67 rfl (by decide) (by decide) (by decide) rfl hlw ?_
          match lw, hl3, hlw, hB with
          | 0, _, _, hB =>
            have er : B = true := by rw [← hB]; rfl
            refine go_lookup 129 dX5_allows_58 (by decide +kernel) (off := 71) (by decide +kernel) (by decide) ?_
            refine go_iconst (nI 1) dX5_allows_129 (by decide +kernel) ?_
            exact go_zret dX5_allows_130 rfl (by first | exact Or.inl rfl | exact Or.inr rfl) (by rw [er]; rfl) rfl
          | 1, _, _, hB =>
            refine go_lookup 84 dX5_allows_58 (by decide +kernel) (off := 26) (by decide +kernel) (by decide) ?_
            refine go_aload_n dX5_allows_84 rfl ?_
            refine go_getc dX5_allows_85 fX5_15 rfl (by decide) (by decide) (by decide) rfl ?_
            refine go_iload_n dX5_allows_88 rfl ?_
            refine go_iconst (nI 3) dX5_allows_89 (by decide +kernel) ?_
            first | refine go_imul_n dX5_allows_90 ?_ | refine go_imul dX5_allows_90 rfl ?_
            refine go_iload_n dX5_allows_91 rfl ?_
            first | refine go_iadd_n dX5_allows_92 ?_ | refine go_iadd dX5_allows_92 rfl ?_
            refine go_iald dX5_allows_93 rfl (by decide) rfl (by omega) (by decide) htl ?_
            refine go_if_ne 101 dX5_allows_94 (by decide) (fun h94 => ?_) (fun h94 => ?_)
            · have er : B = false := by rw [← hB]; simp [show ¬ tl = 0 from h94]
              refine go_iconst (nI 0) dX5_allows_101 (by decide +kernel) ?_
              exact go_zret dX5_allows_102 rfl (by first | exact Or.inl rfl | exact Or.inr rfl) (by rw [er]; rfl) rfl
            · have er : B = true := by rw [← hB]; simp [show tl = 0 from h94]
              refine go_iconst (nI 1) dX5_allows_97 (by decide +kernel) ?_
              refine go_goto 102 dX5_allows_98 (by decide) ?_
              exact go_zret dX5_allows_102 rfl (by first | exact Or.inl rfl | exact Or.inr rfl) (by rw [er]; rfl) rfl
          | 2, _, _, hB =>
            refine go_lookup 103 dX5_allows_58 (by decide +kernel) (off := 45) (by decide +kernel) (by decide) ?_
            refine go_iload dX5_allows_103 rfl ?_
            refine go_if_lt 127 dX5_allows_105 (by decide) (fun h => absurd h (nI_pos (by omega))) (fun h105 => ?_)
            refine go_aload_n dX5_allows_108 rfl ?_
            refine go_getc dX5_allows_109 fX5_21 rfl (by decide) (by decide) (by decide) rfl ?_
            refine go_iload_n dX5_allows_112 rfl ?_
            refine go_iconst (nI 3) dX5_allows_113 (by decide +kernel) ?_
            first | refine go_imul_n dX5_allows_114 ?_ | refine go_imul dX5_allows_114 rfl ?_
            refine go_iload dX5_allows_115 rfl ?_
            first | refine go_iadd_n dX5_allows_117 ?_ | refine go_iadd dX5_allows_117 rfl ?_
            refine go_iald dX5_allows_118 rfl (by decide) rfl (by omega) (by decide) hpa ?_
            refine go_iconst (nI 3) dX5_allows_119 (by decide +kernel) ?_
            refine go_icmp_ge 127 dX5_allows_120 (by decide) (fun h120 => ?_) (fun h120 => ?_)
            · have er : B = false := by
                have z3 : ¬ pl < 3 := Int32.not_lt.mpr h120
                rw [← hB]; simp [z3]
              refine go_iconst (nI 0) dX5_allows_127 (by decide +kernel) ?_
              exact go_zret dX5_allows_128 rfl (by first | exact Or.inl rfl | exact Or.inr rfl) (by rw [er]; rfl) rfl
            · have er : B = true := by
                have z3 : pl < 3 := Int32.not_le.mp h120
                rw [← hB]; simp [z3]
              refine go_iconst (nI 1) dX5_allows_123 (by decide +kernel) ?_
              refine go_goto 128 dX5_allows_124 (by decide) ?_
              exact go_zret dX5_allows_128 rfl (by first | exact Or.inl rfl | exact Or.inr rfl) (by rw [er]; rfl) rfl
        · rw [htd] at h49
          have er : B = false := by rw [← hB, mT_l _ _ _ _ _ h49]
          refine go_iconst (nI 0) dX5_allows_52 (by decide +kernel) ?_
          exact go_zret dX5_allows_53 rfl (by first | exact Or.inl rfl | exact Or.inr rfl) (by rw [er]; rfl) rfl
      · have er : B = false := by rw [← hB, mT_g _ _ _ _ _ _ (by simpa using bI_0.mp h33)]
        refine go_iconst (nI 0) dX5_allows_36 (by decide +kernel) ?_
        exact go_zret dX5_allows_37 rfl (by first | exact Or.inl rfl | exact Or.inr rfl) (by rw [er]; rfl) rfl
theorem c_count_3_29 {O : gOm} {d : Nat} {m : gMem} {P h p n a G : Nat} {st : Int32} (hh : m.1 3 4 = nI h) (h6 : h < 6) (hp : p < 6) (hn : n < 3) (ha : a < 3) (hpl : m.1 30 (p * 6 + h) = nI a) (hG : m.1 31 (h * 3 + a) = nI G) (hG6 : G < 64) (hP : m.1 29 5 = nI P) (hP6 : P ≤ 6) : Ca O (d + 1) kX5_count [.ref 3, .ref 29, .int (nI p), .int (nI n), .int st] none m (ctM m 3 p n a G P st) := by
  have key : ∀ c q, q + c = P → Go O (d + 1) kX5_count none (ctM m 3 p n a G P st) 63 [.ref 3, .ref 29, .int (nI p), .int (nI n), .int st, .int (nI a), .int (nI G), .int (nI q)] [] (gupA (ctB m 3 p n a st) 6 (atX (m.1 6) n G st q)) := by
    intro c
    induction c with
    | zero =>
      intro q hq
      obtain rfl : q = P := by omega
      refine go_iload dX5_count_63 rfl ?_
      refine go_aload_n dX5_count_65 rfl ?_
      refine go_geti dX5_count_66 fX5_85 rfl (by decide) (by decide) (by decide) rfl hP ?_
      refine go_icmp_ge 102 dX5_count_69 (by decide) (fun h69 => ?_) (fun h => absurd (nI_le (by omega) (by omega)) h)
      exact go_vret dX5_count_102 rfl rfl rfl
    | succ c ih =>
      intro q hq
      refine go_iload dX5_count_63 rfl ?_
      refine go_aload_n dX5_count_65 rfl ?_
      refine go_geti dX5_count_66 fX5_85 rfl (by decide) (by decide) (by decide) rfl hP ?_
      refine go_icmp_ge 102 dX5_count_69 (by decide) (fun h => absurd h (nI_ge (by omega) (by omega))) (fun h69 => ?_)
      refine go_aload_n dX5_count_72 rfl ?_
      refine go_getc dX5_count_73 fX5_18 rfl (by decide) (by decide) (by decide) rfl ?_
      refine go_iload dX5_count_76 rfl ?_
      refine go_iconst (nI 3) dX5_count_78 (by decide +kernel) ?_
      first | refine go_imul_n dX5_count_79 ?_ | refine go_imul dX5_count_79 rfl ?_
      refine go_iload_n dX5_count_80 rfl ?_
      first | refine go_iadd_n dX5_count_81 ?_ | refine go_iadd dX5_count_81 rfl ?_
      refine go_dup2 dX5_count_82 rfl rfl ?_
      refine go_ialdA dX5_count_83 rfl (by decide) rfl (by omega) (by decide) rfl ?_
      refine go_iload dX5_count_84 rfl ?_
      refine go_iload dX5_count_86 rfl ?_
      refine go_ishr dX5_count_88 rfl ?_
      refine go_iconst (nI 1) dX5_count_89 (by decide +kernel) ?_
      refine go_iand dX5_count_90 (nb_bit (by omega) (by omega)) ?_
      refine go_iload dX5_count_91 rfl ?_
      refine go_imul dX5_count_93 rfl ?_
      refine go_iadd dX5_count_94 rfl ?_
      refine go_iastA dX5_count_95 rfl (by decide) rfl (by omega) (by decide) ?_
      refine go_iinc_n (L' := [_, _, _, _, _, _, _, _]) dX5_count_96 rfl (by decide) rfl ?_
      refine go_goto 63 dX5_count_99 (by decide) ?_
      exact ih (q + 1) (by omega)
  show Go O (d + 1) kX5_count none _ 0 [.ref 3, .ref 29, .int (nI p), .int (nI n), .int st, .null, .null, .null] [] m
  refine go_aload_n dX5_count_0 rfl ?_
  refine go_iload_n dX5_count_1 rfl ?_
  refine go_aload_n dX5_count_2 rfl ?_
  refine go_geti dX5_count_3 fX5_41 rfl (by decide) (by decide) (by decide) rfl hh ?_
  refine go_callV1 (K' := kX1_placeOf) [_, _] dX5_count_6 mX5_45 lX1_placeOf rfl (by decide) rfl (by decide) rfl rfl (Nat.le_of_ble_eq_true rfl) (Nat.le_of_ble_eq_true rfl) (c_placeOf_29 hp h6 hpl) ?_
  refine go_istore (L' := [_, _, _, _, _, _, _, _]) dX5_count_9 (by decide) rfl ?_
  refine go_iload dX5_count_11 rfl ?_
  refine go_if_ge 17 dX5_count_13 (by decide) (fun h13 => ?_) (fun h => absurd (nI_pos' (by omega)) h)
  refine go_aload_n dX5_count_17 rfl ?_
  refine go_getc dX5_count_18 fX5_15 rfl (by decide) (by decide) (by decide) rfl ?_
  refine go_iload_n dX5_count_21 rfl ?_
  refine go_iconst (nI 3) dX5_count_22 (by decide +kernel) ?_
  first | refine go_imul_n dX5_count_23 ?_ | refine go_imul dX5_count_23 rfl ?_
  refine go_iload_n dX5_count_24 rfl ?_
  first | refine go_iadd_n dX5_count_25 ?_ | refine go_iadd dX5_count_25 rfl ?_
  refine go_dup2 dX5_count_26 rfl rfl ?_
  refine go_iald dX5_count_27 rfl (by decide) rfl (by omega) (by decide) rfl ?_
  refine go_iload dX5_count_28 rfl ?_
  refine go_iadd dX5_count_30 rfl ?_
  refine go_iast dX5_count_31 rfl (by decide) rfl (by omega) (by decide) ?_
  refine go_mem (m1 := ctA m 3 p n st) (gup_asA _ _ _ _) ?_
  refine go_aload_n dX5_count_32 rfl ?_
  refine go_getc dX5_count_33 fX5_21 rfl (by decide) (by decide) (by decide) rfl ?_
  refine go_iload_n dX5_count_36 rfl ?_
  refine go_iconst (nI 3) dX5_count_37 (by decide +kernel) ?_
  first | refine go_imul_n dX5_count_38 ?_ | refine go_imul dX5_count_38 rfl ?_
  refine go_iload dX5_count_39 rfl ?_
  first | refine go_iadd_n dX5_count_41 ?_ | refine go_iadd dX5_count_41 rfl ?_
  refine go_dup2 dX5_count_42 rfl rfl ?_
  refine go_iald dX5_count_43 rfl (by decide) rfl (by omega) (by decide) rfl ?_
  refine go_iload dX5_count_44 rfl ?_
  refine go_iadd dX5_count_46 rfl ?_
  refine go_iast dX5_count_47 rfl (by decide) rfl (by omega) (by decide) ?_
  refine go_mem (m1 := ctB m 3 p n a st) (gup_asA _ _ _ _) ?_
  refine go_aload_n dX5_count_48 rfl ?_
  refine go_aload_n dX5_count_49 rfl ?_
  refine go_geti dX5_count_50 fX5_41 rfl (by decide) (by decide) (by decide) rfl hh ?_
  refine go_iload dX5_count_53 rfl ?_
  refine go_callV1 (K' := kX1_group) [_, _] dX5_count_55 mX5_53 lX1_group rfl (by decide) rfl (by decide) rfl rfl (Nat.le_of_ble_eq_true rfl) (Nat.le_of_ble_eq_true rfl) (c_group_29 h6 ha hG) ?_
  refine go_istore (L' := [_, _, _, _, _, _, _, _]) dX5_count_58 (by decide) rfl ?_
  refine go_mem (gupA_self (ctB m 3 p n a st) 6).symm ?_
  refine go_iconst (nI 0) dX5_count_60 (by decide +kernel) ?_
  refine go_istore (L' := [_, _, _, _, _, _, _, _]) dX5_count_61 (by decide) rfl ?_
  exact key P 0 (by omega)
theorem c_allows_3_35 {O : gOm} {d : Nat} {m : gMem} {P h p n k G lw : Nat} {av : Option Nat} {told lim tl pl : Int32} (hh : m.1 3 4 = nI h) (h6 : h < 6) (hp : p < 6) (hn : n < 3) (hk : k < 64) (hkn : m.1 4 n = nI k) (hpl : m.1 36 (p * 6 + h) = oI (-9) av) (ha3 : ∀ a, av = some a → a < 3 ∧ m.1 37 (h * 3 + a) = nI G ∧ m.1 7 (n * 3 + a) = pl) (hG0 : av = none → G = 0) (hG : G < 64) (htd : nI 0 + m.1 7 (n * 3 + 0) + m.1 7 (n * 3 + 1) + m.1 7 (n * 3 + 2) = told) (hlm : m.1 38 n = lim) (htl : m.1 5 (p * 3 + n) = tl) (hlw : m.1 35 7 = nI lw) (hl3 : lw < 3) : Ca O (d + 2) kX5_allows [.ref 3, .ref 35, .int (nI p), .int (nI n)] (some (.int (bI (mT (k.testBit p) G told lim lw tl pl)))) m m := by
  have hq := pc6_le G
  show Go O (d + 2) kX5_allows _ m 0 [.ref 3, .ref 35, .int (nI p), .int (nI n), .null] [] m
  cases av with
  | none =>
    obtain rfl := hG0 rfl
    refine go_aload_n dX5_allows_0 rfl ?_
    refine go_iload_n dX5_allows_1 rfl ?_
    refine go_aload_n dX5_allows_2 rfl ?_
    refine go_geti dX5_allows_3 fX5_41 rfl (by decide) (by decide) (by decide) rfl hh ?_
    refine go_callV1 (K' := kX1_placeOf) [_, _] dX5_allows_6 mX5_45 lX1_placeOf rfl (by decide) rfl (by decide) rfl rfl (Nat.le_of_ble_eq_true rfl) (Nat.le_of_ble_eq_true rfl) (c_placeOf_35 hp h6 hpl) ?_
    refine go_istore (L' := [_, _, _, _, _]) dX5_allows_9 (by decide) rfl ?_
    refine go_aload_n dX5_allows_11 rfl ?_
    refine go_iload_n dX5_allows_12 rfl ?_
    refine go_iload_n dX5_allows_13 rfl ?_
    refine go_callV1 (K' := kX5_knows) [_, _] dX5_allows_14 mX5_49 lX5_knows rfl (by decide) rfl (by decide) rfl rfl (Nat.le_of_ble_eq_true rfl) (Nat.le_of_ble_eq_true rfl) (c_knows_3 hp hn hk hkn) ?_
    refine go_if_eq 36 dX5_allows_17 (by decide) (fun h17 => ?_) (fun h17 => ?_)
    · refine go_iconst (nI 0) dX5_allows_36 (by decide +kernel) ?_
      exact go_zret dX5_allows_37 rfl (by first | exact Or.inl rfl | exact Or.inr rfl) (by rw [mT_0]; rfl) rfl
    · refine go_aload_n dX5_allows_20 rfl ?_
      refine go_aload_n dX5_allows_21 rfl ?_
      refine go_geti dX5_allows_22 fX5_41 rfl (by decide) (by decide) (by decide) rfl hh ?_
      refine go_iload dX5_allows_25 rfl ?_
      refine go_callV1 (K' := kX1_group) [_, _] dX5_allows_27 mX5_53 lX1_group rfl (by decide) rfl (by decide) rfl rfl (Nat.le_of_ble_eq_true rfl) (Nat.le_of_ble_eq_true rfl) (c_group9_35) ?_
      refine go_callS1 (K' := kX1_isCompany) [_] dX5_allows_30 mX5_56 lX1_isCompany rfl rfl (Nat.le_of_ble_eq_true rfl) (Nat.le_of_ble_eq_true rfl) (c_isCompany (by omega)) ?_
      refine go_if_ne 38 dX5_allows_33 (by decide) (fun h => absurd h (fun z => z (by decide +kernel))) (fun h33 => ?_)
      refine go_iconst (nI 0) dX5_allows_36 (by decide +kernel) ?_
      exact go_zret dX5_allows_37 rfl (by first | exact Or.inl rfl | exact Or.inr rfl) (by rw [mT_0]; rfl) rfl
  | some a =>
    obtain ⟨ha, hg, hpa⟩ := ha3 a rfl
    replace hpl : m.1 36 (p * 6 + h) = nI a := hpl
    generalize hB : mT (k.testBit p) G told lim lw tl pl = B
    refine go_aload_n dX5_allows_0 rfl ?_
    refine go_iload_n dX5_allows_1 rfl ?_
    refine go_aload_n dX5_allows_2 rfl ?_
    refine go_geti dX5_allows_3 fX5_41 rfl (by decide) (by decide) (by decide) rfl hh ?_
    refine go_callV1 (K' := kX1_placeOf) [_, _] dX5_allows_6 mX5_45 lX1_placeOf rfl (by decide) rfl (by decide) rfl rfl (Nat.le_of_ble_eq_true rfl) (Nat.le_of_ble_eq_true rfl) (c_placeOf_35 hp h6 hpl) ?_
    refine go_istore (L' := [_, _, _, _, _]) dX5_allows_9 (by decide) rfl ?_
    refine go_aload_n dX5_allows_11 rfl ?_
    refine go_iload_n dX5_allows_12 rfl ?_
    refine go_iload_n dX5_allows_13 rfl ?_
    refine go_callV1 (K' := kX5_knows) [_, _] dX5_allows_14 mX5_49 lX5_knows rfl (by decide) rfl (by decide) rfl rfl (Nat.le_of_ble_eq_true rfl) (Nat.le_of_ble_eq_true rfl) (c_knows_3 hp hn hk hkn) ?_
    refine go_if_eq 36 dX5_allows_17 (by decide) (fun h17 => ?_) (fun h17 => ?_)
    · have er : B = false := by rw [← hB, bI_0.mp h17, mT_k]
      refine go_iconst (nI 0) dX5_allows_36 (by decide +kernel) ?_
      exact go_zret dX5_allows_37 rfl (by first | exact Or.inl rfl | exact Or.inr rfl) (by rw [er]; rfl) rfl
    · have e1 := bI_n0.mp h17
      refine go_aload_n dX5_allows_20 rfl ?_
      refine go_aload_n dX5_allows_21 rfl ?_
      refine go_geti dX5_allows_22 fX5_41 rfl (by decide) (by decide) (by decide) rfl hh ?_
      refine go_iload dX5_allows_25 rfl ?_
      refine go_callV1 (K' := kX1_group) [_, _] dX5_allows_27 mX5_53 lX1_group rfl (by decide) rfl (by decide) rfl rfl (Nat.le_of_ble_eq_true rfl) (Nat.le_of_ble_eq_true rfl) (c_group_35 h6 ha hg) ?_
      refine go_callS1 (K' := kX1_isCompany) [_] dX5_allows_30 mX5_56 lX1_isCompany rfl rfl (Nat.le_of_ble_eq_true rfl) (Nat.le_of_ble_eq_true rfl) (c_isCompany hG) ?_
      refine go_if_ne 38 dX5_allows_33 (by decide) (fun h33 => ?_) (fun h33 => ?_)
      · have e2 : 1 < pc6 G := by simpa using bI_n0.mp h33
        refine go_aload_n dX5_allows_38 rfl ?_
        refine go_iload_n dX5_allows_39 rfl ?_
        refine go_callV1 (K' := kX5_tellingsOf) [_] dX5_allows_40 mX5_60 lX5_tellingsOf rfl (by decide) rfl (by decide) rfl rfl (Nat.le_of_ble_eq_true rfl) (Nat.le_of_ble_eq_true rfl) (c_tellingsOf_3 hn) ?_
        refine go_aload_n dX5_allows_43 rfl ?_
        refine go_getc dX5_allows_44 fX5_64 rfl (by decide) (by decide) (by decide) rfl ?_
        refine go_iload_n dX5_allows_47 rfl ?_
        refine go_iald dX5_allows_48 rfl (by decide) rfl (by omega) (by decide) hlm ?_
        refine go_icmp_lt 54 dX5_allows_49 (by decide) (fun h49 => ?_) (fun h49 => ?_)
        · rw [htd] at h49
          rw [e1, mT_v lw tl pl e2 h49] at hB
          refine go_aload_n dX5_allows_54 rfl ?_
          refine go_geti dX5_allows_55 fX5_67 rfl (by decide) (by decide) (by decide) rfl hlw ?_
          match lw, hl3, hlw, hB with
          | 0, _, _, hB =>
            have er : B = true := by rw [← hB]; rfl
            refine go_lookup 129 dX5_allows_58 (by decide +kernel) (off := 71) (by decide +kernel) (by decide) ?_
            refine go_iconst (nI 1) dX5_allows_129 (by decide +kernel) ?_
            exact go_zret dX5_allows_130 rfl (by first | exact Or.inl rfl | exact Or.inr rfl) (by rw [er]; rfl) rfl
          | 1, _, _, hB =>
            refine go_lookup 84 dX5_allows_58 (by decide +kernel) (off := 26) (by decide +kernel) (by decide) ?_
            refine go_aload_n dX5_allows_84 rfl ?_
            refine go_getc dX5_allows_85 fX5_15 rfl (by decide) (by decide) (by decide) rfl ?_
            refine go_iload_n dX5_allows_88 rfl ?_
            refine go_iconst (nI 3) dX5_allows_89 (by decide +kernel) ?_
            first | refine go_imul_n dX5_allows_90 ?_ | refine go_imul dX5_allows_90 rfl ?_
            refine go_iload_n dX5_allows_91 rfl ?_
            first | refine go_iadd_n dX5_allows_92 ?_ | refine go_iadd dX5_allows_92 rfl ?_
            refine go_iald dX5_allows_93 rfl (by decide) rfl (by omega) (by decide) htl ?_
            refine go_if_ne 101 dX5_allows_94 (by decide) (fun h94 => ?_) (fun h94 => ?_)
            · have er : B = false := by rw [← hB]; simp [show ¬ tl = 0 from h94]
              refine go_iconst (nI 0) dX5_allows_101 (by decide +kernel) ?_
              exact go_zret dX5_allows_102 rfl (by first | exact Or.inl rfl | exact Or.inr rfl) (by rw [er]; rfl) rfl
            · have er : B = true := by rw [← hB]; simp [show tl = 0 from h94]
              refine go_iconst (nI 1) dX5_allows_97 (by decide +kernel) ?_
              refine go_goto 102 dX5_allows_98 (by decide) ?_
              exact go_zret dX5_allows_102 rfl (by first | exact Or.inl rfl | exact Or.inr rfl) (by rw [er]; rfl) rfl
          | 2, _, _, hB =>
            refine go_lookup 103 dX5_allows_58 (by decide +kernel) (off := 45) (by decide +kernel) (by decide) ?_
            refine go_iload dX5_allows_103 rfl ?_
            refine go_if_lt 127 dX5_allows_105 (by decide) (fun h => absurd h (nI_pos (by omega))) (fun h105 => ?_)
            refine go_aload_n dX5_allows_108 rfl ?_
            refine go_getc dX5_allows_109 fX5_21 rfl (by decide) (by decide) (by decide) rfl ?_
            refine go_iload_n dX5_allows_112 rfl ?_
            refine go_iconst (nI 3) dX5_allows_113 (by decide +kernel) ?_
            first | refine go_imul_n dX5_allows_114 ?_ | refine go_imul dX5_allows_114 rfl ?_
            refine go_iload dX5_allows_115 rfl ?_
            first | refine go_iadd_n dX5_allows_117 ?_ | refine go_iadd dX5_allows_117 rfl ?_
            refine go_iald dX5_allows_118 rfl (by decide) rfl (by omega) (by decide) hpa ?_
            refine go_iconst (nI 3) dX5_allows_119 (by decide +kernel) ?_
            refine go_icmp_ge 127 dX5_allows_120 (by decide) (fun h120 => ?_) (fun h120 => ?_)
            · have er : B = false := by
                have z3 : ¬ pl < 3 := Int32.not_lt.mpr h120
                rw [← hB]; simp [z3]
              refine go_iconst (nI 0) dX5_allows_127 (by decide +kernel) ?_
              exact go_zret dX5_allows_128 rfl (by first | exact Or.inl rfl | exact Or.inr rfl) (by rw [er]; rfl) rfl
            · have er : B = true := by
                have z3 : pl < 3 := Int32.not_le.mp h120
                rw [← hB]; simp [z3]
              refine go_iconst (nI 1) dX5_allows_123 (by decide +kernel) ?_
              refine go_goto 128 dX5_allows_124 (by decide) ?_
              exact go_zret dX5_allows_128 rfl (by first | exact Or.inl rfl | exact Or.inr rfl) (by rw [er]; rfl) rfl
        · rw [htd] at h49
          have er : B = false := by rw [← hB, mT_l _ _ _ _ _ h49]
          refine go_iconst (nI 0) dX5_allows_52 (by decide +kernel) ?_
          exact go_zret dX5_allows_53 rfl (by first | exact Or.inl rfl | exact Or.inr rfl) (by rw [er]; rfl) rfl
      · have er : B = false := by rw [← hB, mT_g _ _ _ _ _ _ (by simpa using bI_0.mp h33)]
        refine go_iconst (nI 0) dX5_allows_36 (by decide +kernel) ?_
        exact go_zret dX5_allows_37 rfl (by first | exact Or.inl rfl | exact Or.inr rfl) (by rw [er]; rfl) rfl
theorem c_count_3_35 {O : gOm} {d : Nat} {m : gMem} {P h p n a G : Nat} {st : Int32} (hh : m.1 3 4 = nI h) (h6 : h < 6) (hp : p < 6) (hn : n < 3) (ha : a < 3) (hpl : m.1 36 (p * 6 + h) = nI a) (hG : m.1 37 (h * 3 + a) = nI G) (hG6 : G < 64) (hP : m.1 35 5 = nI P) (hP6 : P ≤ 6) : Ca O (d + 1) kX5_count [.ref 3, .ref 35, .int (nI p), .int (nI n), .int st] none m (ctM m 3 p n a G P st) := by
  have key : ∀ c q, q + c = P → Go O (d + 1) kX5_count none (ctM m 3 p n a G P st) 63 [.ref 3, .ref 35, .int (nI p), .int (nI n), .int st, .int (nI a), .int (nI G), .int (nI q)] [] (gupA (ctB m 3 p n a st) 6 (atX (m.1 6) n G st q)) := by
    intro c
    induction c with
    | zero =>
      intro q hq
      obtain rfl : q = P := by omega
      refine go_iload dX5_count_63 rfl ?_
      refine go_aload_n dX5_count_65 rfl ?_
      refine go_geti dX5_count_66 fX5_85 rfl (by decide) (by decide) (by decide) rfl hP ?_
      refine go_icmp_ge 102 dX5_count_69 (by decide) (fun h69 => ?_) (fun h => absurd (nI_le (by omega) (by omega)) h)
      exact go_vret dX5_count_102 rfl rfl rfl
    | succ c ih =>
      intro q hq
      refine go_iload dX5_count_63 rfl ?_
      refine go_aload_n dX5_count_65 rfl ?_
      refine go_geti dX5_count_66 fX5_85 rfl (by decide) (by decide) (by decide) rfl hP ?_
      refine go_icmp_ge 102 dX5_count_69 (by decide) (fun h => absurd h (nI_ge (by omega) (by omega))) (fun h69 => ?_)
      refine go_aload_n dX5_count_72 rfl ?_
      refine go_getc dX5_count_73 fX5_18 rfl (by decide) (by decide) (by decide) rfl ?_
      refine go_iload dX5_count_76 rfl ?_
      refine go_iconst (nI 3) dX5_count_78 (by decide +kernel) ?_
      first | refine go_imul_n dX5_count_79 ?_ | refine go_imul dX5_count_79 rfl ?_
      refine go_iload_n dX5_count_80 rfl ?_
      first | refine go_iadd_n dX5_count_81 ?_ | refine go_iadd dX5_count_81 rfl ?_
      refine go_dup2 dX5_count_82 rfl rfl ?_
      refine go_ialdA dX5_count_83 rfl (by decide) rfl (by omega) (by decide) rfl ?_
      refine go_iload dX5_count_84 rfl ?_
      refine go_iload dX5_count_86 rfl ?_
      refine go_ishr dX5_count_88 rfl ?_
      refine go_iconst (nI 1) dX5_count_89 (by decide +kernel) ?_
      refine go_iand dX5_count_90 (nb_bit (by omega) (by omega)) ?_
      refine go_iload dX5_count_91 rfl ?_
      refine go_imul dX5_count_93 rfl ?_
      refine go_iadd dX5_count_94 rfl ?_
      refine go_iastA dX5_count_95 rfl (by decide) rfl (by omega) (by decide) ?_
      refine go_iinc_n (L' := [_, _, _, _, _, _, _, _]) dX5_count_96 rfl (by decide) rfl ?_
      refine go_goto 63 dX5_count_99 (by decide) ?_
      exact ih (q + 1) (by omega)
  show Go O (d + 1) kX5_count none _ 0 [.ref 3, .ref 35, .int (nI p), .int (nI n), .int st, .null, .null, .null] [] m
  refine go_aload_n dX5_count_0 rfl ?_
  refine go_iload_n dX5_count_1 rfl ?_
  refine go_aload_n dX5_count_2 rfl ?_
  refine go_geti dX5_count_3 fX5_41 rfl (by decide) (by decide) (by decide) rfl hh ?_
  refine go_callV1 (K' := kX1_placeOf) [_, _] dX5_count_6 mX5_45 lX1_placeOf rfl (by decide) rfl (by decide) rfl rfl (Nat.le_of_ble_eq_true rfl) (Nat.le_of_ble_eq_true rfl) (c_placeOf_35 hp h6 hpl) ?_
  refine go_istore (L' := [_, _, _, _, _, _, _, _]) dX5_count_9 (by decide) rfl ?_
  refine go_iload dX5_count_11 rfl ?_
  refine go_if_ge 17 dX5_count_13 (by decide) (fun h13 => ?_) (fun h => absurd (nI_pos' (by omega)) h)
  refine go_aload_n dX5_count_17 rfl ?_
  refine go_getc dX5_count_18 fX5_15 rfl (by decide) (by decide) (by decide) rfl ?_
  refine go_iload_n dX5_count_21 rfl ?_
  refine go_iconst (nI 3) dX5_count_22 (by decide +kernel) ?_
  first | refine go_imul_n dX5_count_23 ?_ | refine go_imul dX5_count_23 rfl ?_
  refine go_iload_n dX5_count_24 rfl ?_
  first | refine go_iadd_n dX5_count_25 ?_ | refine go_iadd dX5_count_25 rfl ?_
  refine go_dup2 dX5_count_26 rfl rfl ?_
  refine go_iald dX5_count_27 rfl (by decide) rfl (by omega) (by decide) rfl ?_
  refine go_iload dX5_count_28 rfl ?_
  refine go_iadd dX5_count_30 rfl ?_
  refine go_iast dX5_count_31 rfl (by decide) rfl (by omega) (by decide) ?_
  refine go_mem (m1 := ctA m 3 p n st) (gup_asA _ _ _ _) ?_
  refine go_aload_n dX5_count_32 rfl ?_
  refine go_getc dX5_count_33 fX5_21 rfl (by decide) (by decide) (by decide) rfl ?_
  refine go_iload_n dX5_count_36 rfl ?_
  refine go_iconst (nI 3) dX5_count_37 (by decide +kernel) ?_
  first | refine go_imul_n dX5_count_38 ?_ | refine go_imul dX5_count_38 rfl ?_
  refine go_iload dX5_count_39 rfl ?_
  first | refine go_iadd_n dX5_count_41 ?_ | refine go_iadd dX5_count_41 rfl ?_
  refine go_dup2 dX5_count_42 rfl rfl ?_
  refine go_iald dX5_count_43 rfl (by decide) rfl (by omega) (by decide) rfl ?_
  refine go_iload dX5_count_44 rfl ?_
  refine go_iadd dX5_count_46 rfl ?_
  refine go_iast dX5_count_47 rfl (by decide) rfl (by omega) (by decide) ?_
  refine go_mem (m1 := ctB m 3 p n a st) (gup_asA _ _ _ _) ?_
  refine go_aload_n dX5_count_48 rfl ?_
  refine go_aload_n dX5_count_49 rfl ?_
  refine go_geti dX5_count_50 fX5_41 rfl (by decide) (by decide) (by decide) rfl hh ?_
  refine go_iload dX5_count_53 rfl ?_
  refine go_callV1 (K' := kX1_group) [_, _] dX5_count_55 mX5_53 lX1_group rfl (by decide) rfl (by decide) rfl rfl (Nat.le_of_ble_eq_true rfl) (Nat.le_of_ble_eq_true rfl) (c_group_35 h6 ha hG) ?_
  refine go_istore (L' := [_, _, _, _, _, _, _, _]) dX5_count_58 (by decide) rfl ?_
  refine go_mem (gupA_self (ctB m 3 p n a st) 6).symm ?_
  refine go_iconst (nI 0) dX5_count_60 (by decide +kernel) ?_
  refine go_istore (L' := [_, _, _, _, _, _, _, _]) dX5_count_61 (by decide) rfl ?_
  exact key P 0 (by omega)
theorem c_allows_8_29 {O : gOm} {d : Nat} {m : gMem} {P h p n k G lw : Nat} {av : Option Nat} {told lim tl pl : Int32} (hh : m.1 8 4 = nI h) (h6 : h < 6) (hp : p < 6) (hn : n < 3) (hk : k < 64) (hkn : m.1 9 n = nI k) (hpl : m.1 30 (p * 6 + h) = oI (-9) av) (ha3 : ∀ a, av = some a → a < 3 ∧ m.1 31 (h * 3 + a) = nI G ∧ m.1 12 (n * 3 + a) = pl) (hG0 : av = none → G = 0) (hG : G < 64) (htd : nI 0 + m.1 12 (n * 3 + 0) + m.1 12 (n * 3 + 1) + m.1 12 (n * 3 + 2) = told) (hlm : m.1 32 n = lim) (htl : m.1 10 (p * 3 + n) = tl) (hlw : m.1 29 7 = nI lw) (hl3 : lw < 3) : Ca O (d + 2) kX5_allows [.ref 8, .ref 29, .int (nI p), .int (nI n)] (some (.int (bI (mT (k.testBit p) G told lim lw tl pl)))) m m := by
  have hq := pc6_le G
  show Go O (d + 2) kX5_allows _ m 0 [.ref 8, .ref 29, .int (nI p), .int (nI n), .null] [] m
  cases av with
  | none =>
    obtain rfl := hG0 rfl
    refine go_aload_n dX5_allows_0 rfl ?_
    refine go_iload_n dX5_allows_1 rfl ?_
    refine go_aload_n dX5_allows_2 rfl ?_
    refine go_geti dX5_allows_3 fX5_41 rfl (by decide) (by decide) (by decide) rfl hh ?_
    refine go_callV1 (K' := kX1_placeOf) [_, _] dX5_allows_6 mX5_45 lX1_placeOf rfl (by decide) rfl (by decide) rfl rfl (Nat.le_of_ble_eq_true rfl) (Nat.le_of_ble_eq_true rfl) (c_placeOf_29 hp h6 hpl) ?_
    refine go_istore (L' := [_, _, _, _, _]) dX5_allows_9 (by decide) rfl ?_
    refine go_aload_n dX5_allows_11 rfl ?_
    refine go_iload_n dX5_allows_12 rfl ?_
    refine go_iload_n dX5_allows_13 rfl ?_
    refine go_callV1 (K' := kX5_knows) [_, _] dX5_allows_14 mX5_49 lX5_knows rfl (by decide) rfl (by decide) rfl rfl (Nat.le_of_ble_eq_true rfl) (Nat.le_of_ble_eq_true rfl) (c_knows_8 hp hn hk hkn) ?_
    refine go_if_eq 36 dX5_allows_17 (by decide) (fun h17 => ?_) (fun h17 => ?_)
    · refine go_iconst (nI 0) dX5_allows_36 (by decide +kernel) ?_
      exact go_zret dX5_allows_37 rfl (by first | exact Or.inl rfl | exact Or.inr rfl) (by rw [mT_0]; rfl) rfl
    · refine go_aload_n dX5_allows_20 rfl ?_
      refine go_aload_n dX5_allows_21 rfl ?_
      refine go_geti dX5_allows_22 fX5_41 rfl (by decide) (by decide) (by decide) rfl hh ?_
      refine go_iload dX5_allows_25 rfl ?_
      refine go_callV1 (K' := kX1_group) [_, _] dX5_allows_27 mX5_53 lX1_group rfl (by decide) rfl (by decide) rfl rfl (Nat.le_of_ble_eq_true rfl) (Nat.le_of_ble_eq_true rfl) (c_group9_29) ?_
      refine go_callS1 (K' := kX1_isCompany) [_] dX5_allows_30 mX5_56 lX1_isCompany rfl rfl (Nat.le_of_ble_eq_true rfl) (Nat.le_of_ble_eq_true rfl) (c_isCompany (by omega)) ?_
      refine go_if_ne 38 dX5_allows_33 (by decide) (fun h => absurd h (fun z => z (by decide +kernel))) (fun h33 => ?_)
      refine go_iconst (nI 0) dX5_allows_36 (by decide +kernel) ?_
      exact go_zret dX5_allows_37 rfl (by first | exact Or.inl rfl | exact Or.inr rfl) (by rw [mT_0]; rfl) rfl
  | some a =>
    obtain ⟨ha, hg, hpa⟩ := ha3 a rfl
    replace hpl : m.1 30 (p * 6 + h) = nI a := hpl
    generalize hB : mT (k.testBit p) G told lim lw tl pl = B
    refine go_aload_n dX5_allows_0 rfl ?_
    refine go_iload_n dX5_allows_1 rfl ?_
    refine go_aload_n dX5_allows_2 rfl ?_
    refine go_geti dX5_allows_3 fX5_41 rfl (by decide) (by decide) (by decide) rfl hh ?_
    refine go_callV1 (K' := kX1_placeOf) [_, _] dX5_allows_6 mX5_45 lX1_placeOf rfl (by decide) rfl (by decide) rfl rfl (Nat.le_of_ble_eq_true rfl) (Nat.le_of_ble_eq_true rfl) (c_placeOf_29 hp h6 hpl) ?_
    refine go_istore (L' := [_, _, _, _, _]) dX5_allows_9 (by decide) rfl ?_
    refine go_aload_n dX5_allows_11 rfl ?_
    refine go_iload_n dX5_allows_12 rfl ?_
    refine go_iload_n dX5_allows_13 rfl ?_
    refine go_callV1 (K' := kX5_knows) [_, _] dX5_allows_14 mX5_49 lX5_knows rfl (by decide) rfl (by decide) rfl rfl (Nat.le_of_ble_eq_true rfl) (Nat.le_of_ble_eq_true rfl) (c_knows_8 hp hn hk hkn) ?_
    refine go_if_eq 36 dX5_allows_17 (by decide) (fun h17 => ?_) (fun h17 => ?_)
    · have er : B = false := by rw [← hB, bI_0.mp h17, mT_k]
      refine go_iconst (nI 0) dX5_allows_36 (by decide +kernel) ?_
      exact go_zret dX5_allows_37 rfl (by first | exact Or.inl rfl | exact Or.inr rfl) (by rw [er]; rfl) rfl
    · have e1 := bI_n0.mp h17
      refine go_aload_n dX5_allows_20 rfl ?_
      refine go_aload_n dX5_allows_21 rfl ?_
      refine go_geti dX5_allows_22 fX5_41 rfl (by decide) (by decide) (by decide) rfl hh ?_
      refine go_iload dX5_allows_25 rfl ?_
      refine go_callV1 (K' := kX1_group) [_, _] dX5_allows_27 mX5_53 lX1_group rfl (by decide) rfl (by decide) rfl rfl (Nat.le_of_ble_eq_true rfl) (Nat.le_of_ble_eq_true rfl) (c_group_29 h6 ha hg) ?_
      refine go_callS1 (K' := kX1_isCompany) [_] dX5_allows_30 mX5_56 lX1_isCompany rfl rfl (Nat.le_of_ble_eq_true rfl) (Nat.le_of_ble_eq_true rfl) (c_isCompany hG) ?_
      refine go_if_ne 38 dX5_allows_33 (by decide) (fun h33 => ?_) (fun h33 => ?_)
      · have e2 : 1 < pc6 G := by simpa using bI_n0.mp h33
        refine go_aload_n dX5_allows_38 rfl ?_
        refine go_iload_n dX5_allows_39 rfl ?_
        refine go_callV1 (K' := kX5_tellingsOf) [_] dX5_allows_40 mX5_60 lX5_tellingsOf rfl (by decide) rfl (by decide) rfl rfl (Nat.le_of_ble_eq_true rfl) (Nat.le_of_ble_eq_true rfl) (c_tellingsOf_8 hn) ?_
        refine go_aload_n dX5_allows_43 rfl ?_
        refine go_getc dX5_allows_44 fX5_64 rfl (by decide) (by decide) (by decide) rfl ?_
        refine go_iload_n dX5_allows_47 rfl ?_
        refine go_iald dX5_allows_48 rfl (by decide) rfl (by omega) (by decide) hlm ?_
        refine go_icmp_lt 54 dX5_allows_49 (by decide) (fun h49 => ?_) (fun h49 => ?_)
        · rw [htd] at h49
          rw [e1, mT_v lw tl pl e2 h49] at hB
          refine go_aload_n dX5_allows_54 rfl ?_
          refine go_geti dX5_allows_55 fX5_67 rfl (by decide) (by decide) (by decide) rfl hlw ?_
          match lw, hl3, hlw, hB with
          | 0, _, _, hB =>
            have er : B = true := by rw [← hB]; rfl
            refine go_lookup 129 dX5_allows_58 (by decide +kernel) (off := 71) (by decide +kernel) (by decide) ?_
            refine go_iconst (nI 1) dX5_allows_129 (by decide +kernel) ?_
            exact go_zret dX5_allows_130 rfl (by first | exact Or.inl rfl | exact Or.inr rfl) (by rw [er]; rfl) rfl
          | 1, _, _, hB =>
            refine go_lookup 84 dX5_allows_58 (by decide +kernel) (off := 26) (by decide +kernel) (by decide) ?_
            refine go_aload_n dX5_allows_84 rfl ?_
            refine go_getc dX5_allows_85 fX5_15 rfl (by decide) (by decide) (by decide) rfl ?_
            refine go_iload_n dX5_allows_88 rfl ?_
            refine go_iconst (nI 3) dX5_allows_89 (by decide +kernel) ?_
            first | refine go_imul_n dX5_allows_90 ?_ | refine go_imul dX5_allows_90 rfl ?_
            refine go_iload_n dX5_allows_91 rfl ?_
            first | refine go_iadd_n dX5_allows_92 ?_ | refine go_iadd dX5_allows_92 rfl ?_
            refine go_iald dX5_allows_93 rfl (by decide) rfl (by omega) (by decide) htl ?_
            refine go_if_ne 101 dX5_allows_94 (by decide) (fun h94 => ?_) (fun h94 => ?_)
            · have er : B = false := by rw [← hB]; simp [show ¬ tl = 0 from h94]
              refine go_iconst (nI 0) dX5_allows_101 (by decide +kernel) ?_
              exact go_zret dX5_allows_102 rfl (by first | exact Or.inl rfl | exact Or.inr rfl) (by rw [er]; rfl) rfl
            · have er : B = true := by rw [← hB]; simp [show tl = 0 from h94]
              refine go_iconst (nI 1) dX5_allows_97 (by decide +kernel) ?_
              refine go_goto 102 dX5_allows_98 (by decide) ?_
              exact go_zret dX5_allows_102 rfl (by first | exact Or.inl rfl | exact Or.inr rfl) (by rw [er]; rfl) rfl
          | 2, _, _, hB =>
            refine go_lookup 103 dX5_allows_58 (by decide +kernel) (off := 45) (by decide +kernel) (by decide) ?_
            refine go_iload dX5_allows_103 rfl ?_
            refine go_if_lt 127 dX5_allows_105 (by decide) (fun h => absurd h (nI_pos (by omega))) (fun h105 => ?_)
            refine go_aload_n dX5_allows_108 rfl ?_
            refine go_getc dX5_allows_109 fX5_21 rfl (by decide) (by decide) (by decide) rfl ?_
            refine go_iload_n dX5_allows_112 rfl ?_
            refine go_iconst (nI 3) dX5_allows_113 (by decide +kernel) ?_
            first | refine go_imul_n dX5_allows_114 ?_ | refine go_imul dX5_allows_114 rfl ?_
            refine go_iload dX5_allows_115 rfl ?_
            first | refine go_iadd_n dX5_allows_117 ?_ | refine go_iadd dX5_allows_117 rfl ?_
            refine go_iald dX5_allows_118 rfl (by decide) rfl (by omega) (by decide) hpa ?_
            refine go_iconst (nI 3) dX5_allows_119 (by decide +kernel) ?_
            refine go_icmp_ge 127 dX5_allows_120 (by decide) (fun h120 => ?_) (fun h120 => ?_)
            · have er : B = false := by
                have z3 : ¬ pl < 3 := Int32.not_lt.mpr h120
                rw [← hB]; simp [z3]
              refine go_iconst (nI 0) dX5_allows_127 (by decide +kernel) ?_
              exact go_zret dX5_allows_128 rfl (by first | exact Or.inl rfl | exact Or.inr rfl) (by rw [er]; rfl) rfl
            · have er : B = true := by
                have z3 : pl < 3 := Int32.not_le.mp h120
                rw [← hB]; simp [z3]
              refine go_iconst (nI 1) dX5_allows_123 (by decide +kernel) ?_
              refine go_goto 128 dX5_allows_124 (by decide) ?_
              exact go_zret dX5_allows_128 rfl (by first | exact Or.inl rfl | exact Or.inr rfl) (by rw [er]; rfl) rfl
        · rw [htd] at h49
          have er : B = false := by rw [← hB, mT_l _ _ _ _ _ h49]
          refine go_iconst (nI 0) dX5_allows_52 (by decide +kernel) ?_
          exact go_zret dX5_allows_53 rfl (by first | exact Or.inl rfl | exact Or.inr rfl) (by rw [er]; rfl) rfl
      · have er : B = false := by rw [← hB, mT_g _ _ _ _ _ _ (by simpa using bI_0.mp h33)]
        refine go_iconst (nI 0) dX5_allows_36 (by decide +kernel) ?_
        exact go_zret dX5_allows_37 rfl (by first | exact Or.inl rfl | exact Or.inr rfl) (by rw [er]; rfl) rfl
theorem c_count_8_29 {O : gOm} {d : Nat} {m : gMem} {P h p n a G : Nat} {st : Int32} (hh : m.1 8 4 = nI h) (h6 : h < 6) (hp : p < 6) (hn : n < 3) (ha : a < 3) (hpl : m.1 30 (p * 6 + h) = nI a) (hG : m.1 31 (h * 3 + a) = nI G) (hG6 : G < 64) (hP : m.1 29 5 = nI P) (hP6 : P ≤ 6) : Ca O (d + 1) kX5_count [.ref 8, .ref 29, .int (nI p), .int (nI n), .int st] none m (ctM m 8 p n a G P st) := by
  have key : ∀ c q, q + c = P → Go O (d + 1) kX5_count none (ctM m 8 p n a G P st) 63 [.ref 8, .ref 29, .int (nI p), .int (nI n), .int st, .int (nI a), .int (nI G), .int (nI q)] [] (gupA (ctB m 8 p n a st) 11 (atX (m.1 11) n G st q)) := by
    intro c
    induction c with
    | zero =>
      intro q hq
      obtain rfl : q = P := by omega
      refine go_iload dX5_count_63 rfl ?_
      refine go_aload_n dX5_count_65 rfl ?_
      refine go_geti dX5_count_66 fX5_85 rfl (by decide) (by decide) (by decide) rfl hP ?_
      refine go_icmp_ge 102 dX5_count_69 (by decide) (fun h69 => ?_) (fun h => absurd (nI_le (by omega) (by omega)) h)
      exact go_vret dX5_count_102 rfl rfl rfl
    | succ c ih =>
      intro q hq
      refine go_iload dX5_count_63 rfl ?_
      refine go_aload_n dX5_count_65 rfl ?_
      refine go_geti dX5_count_66 fX5_85 rfl (by decide) (by decide) (by decide) rfl hP ?_
      refine go_icmp_ge 102 dX5_count_69 (by decide) (fun h => absurd h (nI_ge (by omega) (by omega))) (fun h69 => ?_)
      refine go_aload_n dX5_count_72 rfl ?_
      refine go_getc dX5_count_73 fX5_18 rfl (by decide) (by decide) (by decide) rfl ?_
      refine go_iload dX5_count_76 rfl ?_
      refine go_iconst (nI 3) dX5_count_78 (by decide +kernel) ?_
      first | refine go_imul_n dX5_count_79 ?_ | refine go_imul dX5_count_79 rfl ?_
      refine go_iload_n dX5_count_80 rfl ?_
      first | refine go_iadd_n dX5_count_81 ?_ | refine go_iadd dX5_count_81 rfl ?_
      refine go_dup2 dX5_count_82 rfl rfl ?_
      refine go_ialdA dX5_count_83 rfl (by decide) rfl (by omega) (by decide) rfl ?_
      refine go_iload dX5_count_84 rfl ?_
      refine go_iload dX5_count_86 rfl ?_
      refine go_ishr dX5_count_88 rfl ?_
      refine go_iconst (nI 1) dX5_count_89 (by decide +kernel) ?_
      refine go_iand dX5_count_90 (nb_bit (by omega) (by omega)) ?_
      refine go_iload dX5_count_91 rfl ?_
      refine go_imul dX5_count_93 rfl ?_
      refine go_iadd dX5_count_94 rfl ?_
      refine go_iastA dX5_count_95 rfl (by decide) rfl (by omega) (by decide) ?_
      refine go_iinc_n (L' := [_, _, _, _, _, _, _, _]) dX5_count_96 rfl (by decide) rfl ?_
      refine go_goto 63 dX5_count_99 (by decide) ?_
      exact ih (q + 1) (by omega)
  show Go O (d + 1) kX5_count none _ 0 [.ref 8, .ref 29, .int (nI p), .int (nI n), .int st, .null, .null, .null] [] m
  refine go_aload_n dX5_count_0 rfl ?_
  refine go_iload_n dX5_count_1 rfl ?_
  refine go_aload_n dX5_count_2 rfl ?_
  refine go_geti dX5_count_3 fX5_41 rfl (by decide) (by decide) (by decide) rfl hh ?_
  refine go_callV1 (K' := kX1_placeOf) [_, _] dX5_count_6 mX5_45 lX1_placeOf rfl (by decide) rfl (by decide) rfl rfl (Nat.le_of_ble_eq_true rfl) (Nat.le_of_ble_eq_true rfl) (c_placeOf_29 hp h6 hpl) ?_
  refine go_istore (L' := [_, _, _, _, _, _, _, _]) dX5_count_9 (by decide) rfl ?_
  refine go_iload dX5_count_11 rfl ?_
  refine go_if_ge 17 dX5_count_13 (by decide) (fun h13 => ?_) (fun h => absurd (nI_pos' (by omega)) h)
  refine go_aload_n dX5_count_17 rfl ?_
  refine go_getc dX5_count_18 fX5_15 rfl (by decide) (by decide) (by decide) rfl ?_
  refine go_iload_n dX5_count_21 rfl ?_
  refine go_iconst (nI 3) dX5_count_22 (by decide +kernel) ?_
  first | refine go_imul_n dX5_count_23 ?_ | refine go_imul dX5_count_23 rfl ?_
  refine go_iload_n dX5_count_24 rfl ?_
  first | refine go_iadd_n dX5_count_25 ?_ | refine go_iadd dX5_count_25 rfl ?_
  refine go_dup2 dX5_count_26 rfl rfl ?_
  refine go_iald dX5_count_27 rfl (by decide) rfl (by omega) (by decide) rfl ?_
  refine go_iload dX5_count_28 rfl ?_
  refine go_iadd dX5_count_30 rfl ?_
  refine go_iast dX5_count_31 rfl (by decide) rfl (by omega) (by decide) ?_
  refine go_mem (m1 := ctA m 8 p n st) (gup_asA _ _ _ _) ?_
  refine go_aload_n dX5_count_32 rfl ?_
  refine go_getc dX5_count_33 fX5_21 rfl (by decide) (by decide) (by decide) rfl ?_
  refine go_iload_n dX5_count_36 rfl ?_
  refine go_iconst (nI 3) dX5_count_37 (by decide +kernel) ?_
  first | refine go_imul_n dX5_count_38 ?_ | refine go_imul dX5_count_38 rfl ?_
  refine go_iload dX5_count_39 rfl ?_
  first | refine go_iadd_n dX5_count_41 ?_ | refine go_iadd dX5_count_41 rfl ?_
  refine go_dup2 dX5_count_42 rfl rfl ?_
  refine go_iald dX5_count_43 rfl (by decide) rfl (by omega) (by decide) rfl ?_
  refine go_iload dX5_count_44 rfl ?_
  refine go_iadd dX5_count_46 rfl ?_
  refine go_iast dX5_count_47 rfl (by decide) rfl (by omega) (by decide) ?_
  refine go_mem (m1 := ctB m 8 p n a st) (gup_asA _ _ _ _) ?_
  refine go_aload_n dX5_count_48 rfl ?_
  refine go_aload_n dX5_count_49 rfl ?_
  refine go_geti dX5_count_50 fX5_41 rfl (by decide) (by decide) (by decide) rfl hh ?_
  refine go_iload dX5_count_53 rfl ?_
  refine go_callV1 (K' := kX1_group) [_, _] dX5_count_55 mX5_53 lX1_group rfl (by decide) rfl (by decide) rfl rfl (Nat.le_of_ble_eq_true rfl) (Nat.le_of_ble_eq_true rfl) (c_group_29 h6 ha hG) ?_
  refine go_istore (L' := [_, _, _, _, _, _, _, _]) dX5_count_58 (by decide) rfl ?_
  refine go_mem (gupA_self (ctB m 8 p n a st) 11).symm ?_
  refine go_iconst (nI 0) dX5_count_60 (by decide +kernel) ?_
  refine go_istore (L' := [_, _, _, _, _, _, _, _]) dX5_count_61 (by decide) rfl ?_
  exact key P 0 (by omega)
theorem c_allows_8_35 {O : gOm} {d : Nat} {m : gMem} {P h p n k G lw : Nat} {av : Option Nat} {told lim tl pl : Int32} (hh : m.1 8 4 = nI h) (h6 : h < 6) (hp : p < 6) (hn : n < 3) (hk : k < 64) (hkn : m.1 9 n = nI k) (hpl : m.1 36 (p * 6 + h) = oI (-9) av) (ha3 : ∀ a, av = some a → a < 3 ∧ m.1 37 (h * 3 + a) = nI G ∧ m.1 12 (n * 3 + a) = pl) (hG0 : av = none → G = 0) (hG : G < 64) (htd : nI 0 + m.1 12 (n * 3 + 0) + m.1 12 (n * 3 + 1) + m.1 12 (n * 3 + 2) = told) (hlm : m.1 38 n = lim) (htl : m.1 10 (p * 3 + n) = tl) (hlw : m.1 35 7 = nI lw) (hl3 : lw < 3) : Ca O (d + 2) kX5_allows [.ref 8, .ref 35, .int (nI p), .int (nI n)] (some (.int (bI (mT (k.testBit p) G told lim lw tl pl)))) m m := by
  have hq := pc6_le G
  show Go O (d + 2) kX5_allows _ m 0 [.ref 8, .ref 35, .int (nI p), .int (nI n), .null] [] m
  cases av with
  | none =>
    obtain rfl := hG0 rfl
    refine go_aload_n dX5_allows_0 rfl ?_
    refine go_iload_n dX5_allows_1 rfl ?_
    refine go_aload_n dX5_allows_2 rfl ?_
    refine go_geti dX5_allows_3 fX5_41 rfl (by decide) (by decide) (by decide) rfl hh ?_
    refine go_callV1 (K' := kX1_placeOf) [_, _] dX5_allows_6 mX5_45 lX1_placeOf rfl (by decide) rfl (by decide) rfl rfl (Nat.le_of_ble_eq_true rfl) (Nat.le_of_ble_eq_true rfl) (c_placeOf_35 hp h6 hpl) ?_
    refine go_istore (L' := [_, _, _, _, _]) dX5_allows_9 (by decide) rfl ?_
    refine go_aload_n dX5_allows_11 rfl ?_
    refine go_iload_n dX5_allows_12 rfl ?_
    refine go_iload_n dX5_allows_13 rfl ?_
    refine go_callV1 (K' := kX5_knows) [_, _] dX5_allows_14 mX5_49 lX5_knows rfl (by decide) rfl (by decide) rfl rfl (Nat.le_of_ble_eq_true rfl) (Nat.le_of_ble_eq_true rfl) (c_knows_8 hp hn hk hkn) ?_
    refine go_if_eq 36 dX5_allows_17 (by decide) (fun h17 => ?_) (fun h17 => ?_)
    · refine go_iconst (nI 0) dX5_allows_36 (by decide +kernel) ?_
      exact go_zret dX5_allows_37 rfl (by first | exact Or.inl rfl | exact Or.inr rfl) (by rw [mT_0]; rfl) rfl
    · refine go_aload_n dX5_allows_20 rfl ?_
      refine go_aload_n dX5_allows_21 rfl ?_
      refine go_geti dX5_allows_22 fX5_41 rfl (by decide) (by decide) (by decide) rfl hh ?_
      refine go_iload dX5_allows_25 rfl ?_
      refine go_callV1 (K' := kX1_group) [_, _] dX5_allows_27 mX5_53 lX1_group rfl (by decide) rfl (by decide) rfl rfl (Nat.le_of_ble_eq_true rfl) (Nat.le_of_ble_eq_true rfl) (c_group9_35) ?_
      refine go_callS1 (K' := kX1_isCompany) [_] dX5_allows_30 mX5_56 lX1_isCompany rfl rfl (Nat.le_of_ble_eq_true rfl) (Nat.le_of_ble_eq_true rfl) (c_isCompany (by omega)) ?_
      refine go_if_ne 38 dX5_allows_33 (by decide) (fun h => absurd h (fun z => z (by decide +kernel))) (fun h33 => ?_)
      refine go_iconst (nI 0) dX5_allows_36 (by decide +kernel) ?_
      exact go_zret dX5_allows_37 rfl (by first | exact Or.inl rfl | exact Or.inr rfl) (by rw [mT_0]; rfl) rfl
  | some a =>
    obtain ⟨ha, hg, hpa⟩ := ha3 a rfl
    replace hpl : m.1 36 (p * 6 + h) = nI a := hpl
    generalize hB : mT (k.testBit p) G told lim lw tl pl = B
    refine go_aload_n dX5_allows_0 rfl ?_
    refine go_iload_n dX5_allows_1 rfl ?_
    refine go_aload_n dX5_allows_2 rfl ?_
    refine go_geti dX5_allows_3 fX5_41 rfl (by decide) (by decide) (by decide) rfl hh ?_
    refine go_callV1 (K' := kX1_placeOf) [_, _] dX5_allows_6 mX5_45 lX1_placeOf rfl (by decide) rfl (by decide) rfl rfl (Nat.le_of_ble_eq_true rfl) (Nat.le_of_ble_eq_true rfl) (c_placeOf_35 hp h6 hpl) ?_
    refine go_istore (L' := [_, _, _, _, _]) dX5_allows_9 (by decide) rfl ?_
    refine go_aload_n dX5_allows_11 rfl ?_
    refine go_iload_n dX5_allows_12 rfl ?_
    refine go_iload_n dX5_allows_13 rfl ?_
    refine go_callV1 (K' := kX5_knows) [_, _] dX5_allows_14 mX5_49 lX5_knows rfl (by decide) rfl (by decide) rfl rfl (Nat.le_of_ble_eq_true rfl) (Nat.le_of_ble_eq_true rfl) (c_knows_8 hp hn hk hkn) ?_
    refine go_if_eq 36 dX5_allows_17 (by decide) (fun h17 => ?_) (fun h17 => ?_)
    · have er : B = false := by rw [← hB, bI_0.mp h17, mT_k]
      refine go_iconst (nI 0) dX5_allows_36 (by decide +kernel) ?_
      exact go_zret dX5_allows_37 rfl (by first | exact Or.inl rfl | exact Or.inr rfl) (by rw [er]; rfl) rfl
    · have e1 := bI_n0.mp h17
      refine go_aload_n dX5_allows_20 rfl ?_
      refine go_aload_n dX5_allows_21 rfl ?_
      refine go_geti dX5_allows_22 fX5_41 rfl (by decide) (by decide) (by decide) rfl hh ?_
      refine go_iload dX5_allows_25 rfl ?_
      refine go_callV1 (K' := kX1_group) [_, _] dX5_allows_27 mX5_53 lX1_group rfl (by decide) rfl (by decide) rfl rfl (Nat.le_of_ble_eq_true rfl) (Nat.le_of_ble_eq_true rfl) (c_group_35 h6 ha hg) ?_
      refine go_callS1 (K' := kX1_isCompany) [_] dX5_allows_30 mX5_56 lX1_isCompany rfl rfl (Nat.le_of_ble_eq_true rfl) (Nat.le_of_ble_eq_true rfl) (c_isCompany hG) ?_
      refine go_if_ne 38 dX5_allows_33 (by decide) (fun h33 => ?_) (fun h33 => ?_)
      · have e2 : 1 < pc6 G := by simpa using bI_n0.mp h33
        refine go_aload_n dX5_allows_38 rfl ?_
        refine go_iload_n dX5_allows_39 rfl ?_
        refine go_callV1 (K' := kX5_tellingsOf) [_] dX5_allows_40 mX5_60 lX5_tellingsOf rfl (by decide) rfl (by decide) rfl rfl (Nat.le_of_ble_eq_true rfl) (Nat.le_of_ble_eq_true rfl) (c_tellingsOf_8 hn) ?_
        refine go_aload_n dX5_allows_43 rfl ?_
        refine go_getc dX5_allows_44 fX5_64 rfl (by decide) (by decide) (by decide) rfl ?_
        refine go_iload_n dX5_allows_47 rfl ?_
        refine go_iald dX5_allows_48 rfl (by decide) rfl (by omega) (by decide) hlm ?_
        refine go_icmp_lt 54 dX5_allows_49 (by decide) (fun h49 => ?_) (fun h49 => ?_)
        · rw [htd] at h49
          rw [e1, mT_v lw tl pl e2 h49] at hB
          refine go_aload_n dX5_allows_54 rfl ?_
          refine go_geti dX5_allows_55 fX5_67 rfl (by decide) (by decide) (by decide) rfl hlw ?_
          match lw, hl3, hlw, hB with
          | 0, _, _, hB =>
            have er : B = true := by rw [← hB]; rfl
            refine go_lookup 129 dX5_allows_58 (by decide +kernel) (off := 71) (by decide +kernel) (by decide) ?_
            refine go_iconst (nI 1) dX5_allows_129 (by decide +kernel) ?_
            exact go_zret dX5_allows_130 rfl (by first | exact Or.inl rfl | exact Or.inr rfl) (by rw [er]; rfl) rfl
          | 1, _, _, hB =>
            refine go_lookup 84 dX5_allows_58 (by decide +kernel) (off := 26) (by decide +kernel) (by decide) ?_
            refine go_aload_n dX5_allows_84 rfl ?_
            refine go_getc dX5_allows_85 fX5_15 rfl (by decide) (by decide) (by decide) rfl ?_
            refine go_iload_n dX5_allows_88 rfl ?_
            refine go_iconst (nI 3) dX5_allows_89 (by decide +kernel) ?_
            first | refine go_imul_n dX5_allows_90 ?_ | refine go_imul dX5_allows_90 rfl ?_
            refine go_iload_n dX5_allows_91 rfl ?_
            first | refine go_iadd_n dX5_allows_92 ?_ | refine go_iadd dX5_allows_92 rfl ?_
            refine go_iald dX5_allows_93 rfl (by decide) rfl (by omega) (by decide) htl ?_
            refine go_if_ne 101 dX5_allows_94 (by decide) (fun h94 => ?_) (fun h94 => ?_)
            · have er : B = false := by rw [← hB]; simp [show ¬ tl = 0 from h94]
              refine go_iconst (nI 0) dX5_allows_101 (by decide +kernel) ?_
              exact go_zret dX5_allows_102 rfl (by first | exact Or.inl rfl | exact Or.inr rfl) (by rw [er]; rfl) rfl
            · have er : B = true := by rw [← hB]; simp [show tl = 0 from h94]
              refine go_iconst (nI 1) dX5_allows_97 (by decide +kernel) ?_
              refine go_goto 102 dX5_allows_98 (by decide) ?_
              exact go_zret dX5_allows_102 rfl (by first | exact Or.inl rfl | exact Or.inr rfl) (by rw [er]; rfl) rfl
          | 2, _, _, hB =>
            refine go_lookup 103 dX5_allows_58 (by decide +kernel) (off := 45) (by decide +kernel) (by decide) ?_
            refine go_iload dX5_allows_103 rfl ?_
            refine go_if_lt 127 dX5_allows_105 (by decide) (fun h => absurd h (nI_pos (by omega))) (fun h105 => ?_)
            refine go_aload_n dX5_allows_108 rfl ?_
            refine go_getc dX5_allows_109 fX5_21 rfl (by decide) (by decide) (by decide) rfl ?_
            refine go_iload_n dX5_allows_112 rfl ?_
            refine go_iconst (nI 3) dX5_allows_113 (by decide +kernel) ?_
            first | refine go_imul_n dX5_allows_114 ?_ | refine go_imul dX5_allows_114 rfl ?_
            refine go_iload dX5_allows_115 rfl ?_
            first | refine go_iadd_n dX5_allows_117 ?_ | refine go_iadd dX5_allows_117 rfl ?_
            refine go_iald dX5_allows_118 rfl (by decide) rfl (by omega) (by decide) hpa ?_
            refine go_iconst (nI 3) dX5_allows_119 (by decide +kernel) ?_
            refine go_icmp_ge 127 dX5_allows_120 (by decide) (fun h120 => ?_) (fun h120 => ?_)
            · have er : B = false := by
                have z3 : ¬ pl < 3 := Int32.not_lt.mpr h120
                rw [← hB]; simp [z3]
              refine go_iconst (nI 0) dX5_allows_127 (by decide +kernel) ?_
              exact go_zret dX5_allows_128 rfl (by first | exact Or.inl rfl | exact Or.inr rfl) (by rw [er]; rfl) rfl
            · have er : B = true := by
                have z3 : pl < 3 := Int32.not_le.mp h120
                rw [← hB]; simp [z3]
              refine go_iconst (nI 1) dX5_allows_123 (by decide +kernel) ?_
              refine go_goto 128 dX5_allows_124 (by decide) ?_
              exact go_zret dX5_allows_128 rfl (by first | exact Or.inl rfl | exact Or.inr rfl) (by rw [er]; rfl) rfl
        · rw [htd] at h49
          have er : B = false := by rw [← hB, mT_l _ _ _ _ _ h49]
          refine go_iconst (nI 0) dX5_allows_52 (by decide +kernel) ?_
          exact go_zret dX5_allows_53 rfl (by first | exact Or.inl rfl | exact Or.inr rfl) (by rw [er]; rfl) rfl
      · have er : B = false := by rw [← hB, mT_g _ _ _ _ _ _ (by simpa using bI_0.mp h33)]
        refine go_iconst (nI 0) dX5_allows_36 (by decide +kernel) ?_
        exact go_zret dX5_allows_37 rfl (by first | exact Or.inl rfl | exact Or.inr rfl) (by rw [er]; rfl) rfl
theorem c_count_8_35 {O : gOm} {d : Nat} {m : gMem} {P h p n a G : Nat} {st : Int32} (hh : m.1 8 4 = nI h) (h6 : h < 6) (hp : p < 6) (hn : n < 3) (ha : a < 3) (hpl : m.1 36 (p * 6 + h) = nI a) (hG : m.1 37 (h * 3 + a) = nI G) (hG6 : G < 64) (hP : m.1 35 5 = nI P) (hP6 : P ≤ 6) : Ca O (d + 1) kX5_count [.ref 8, .ref 35, .int (nI p), .int (nI n), .int st] none m (ctM m 8 p n a G P st) := by
  have key : ∀ c q, q + c = P → Go O (d + 1) kX5_count none (ctM m 8 p n a G P st) 63 [.ref 8, .ref 35, .int (nI p), .int (nI n), .int st, .int (nI a), .int (nI G), .int (nI q)] [] (gupA (ctB m 8 p n a st) 11 (atX (m.1 11) n G st q)) := by
    intro c
    induction c with
    | zero =>
      intro q hq
      obtain rfl : q = P := by omega
      refine go_iload dX5_count_63 rfl ?_
      refine go_aload_n dX5_count_65 rfl ?_
      refine go_geti dX5_count_66 fX5_85 rfl (by decide) (by decide) (by decide) rfl hP ?_
      refine go_icmp_ge 102 dX5_count_69 (by decide) (fun h69 => ?_) (fun h => absurd (nI_le (by omega) (by omega)) h)
      exact go_vret dX5_count_102 rfl rfl rfl
    | succ c ih =>
      intro q hq
      refine go_iload dX5_count_63 rfl ?_
      refine go_aload_n dX5_count_65 rfl ?_
      refine go_geti dX5_count_66 fX5_85 rfl (by decide) (by decide) (by decide) rfl hP ?_
      refine go_icmp_ge 102 dX5_count_69 (by decide) (fun h => absurd h (nI_ge (by omega) (by omega))) (fun h69 => ?_)
      refine go_aload_n dX5_count_72 rfl ?_
      refine go_getc dX5_count_73 fX5_18 rfl (by decide) (by decide) (by decide) rfl ?_
      refine go_iload dX5_count_76 rfl ?_
      refine go_iconst (nI 3) dX5_count_78 (by decide +kernel) ?_
      first | refine go_imul_n dX5_count_79 ?_ | refine go_imul dX5_count_79 rfl ?_
      refine go_iload_n dX5_count_80 rfl ?_
      first | refine go_iadd_n dX5_count_81 ?_ | refine go_iadd dX5_count_81 rfl ?_
      refine go_dup2 dX5_count_82 rfl rfl ?_
      refine go_ialdA dX5_count_83 rfl (by decide) rfl (by omega) (by decide) rfl ?_
      refine go_iload dX5_count_84 rfl ?_
      refine go_iload dX5_count_86 rfl ?_
      refine go_ishr dX5_count_88 rfl ?_
      refine go_iconst (nI 1) dX5_count_89 (by decide +kernel) ?_
      refine go_iand dX5_count_90 (nb_bit (by omega) (by omega)) ?_
      refine go_iload dX5_count_91 rfl ?_
      refine go_imul dX5_count_93 rfl ?_
      refine go_iadd dX5_count_94 rfl ?_
      refine go_iastA dX5_count_95 rfl (by decide) rfl (by omega) (by decide) ?_
      refine go_iinc_n (L' := [_, _, _, _, _, _, _, _]) dX5_count_96 rfl (by decide) rfl ?_
      refine go_goto 63 dX5_count_99 (by decide) ?_
      exact ih (q + 1) (by omega)
  show Go O (d + 1) kX5_count none _ 0 [.ref 8, .ref 35, .int (nI p), .int (nI n), .int st, .null, .null, .null] [] m
  refine go_aload_n dX5_count_0 rfl ?_
  refine go_iload_n dX5_count_1 rfl ?_
  refine go_aload_n dX5_count_2 rfl ?_
  refine go_geti dX5_count_3 fX5_41 rfl (by decide) (by decide) (by decide) rfl hh ?_
  refine go_callV1 (K' := kX1_placeOf) [_, _] dX5_count_6 mX5_45 lX1_placeOf rfl (by decide) rfl (by decide) rfl rfl (Nat.le_of_ble_eq_true rfl) (Nat.le_of_ble_eq_true rfl) (c_placeOf_35 hp h6 hpl) ?_
  refine go_istore (L' := [_, _, _, _, _, _, _, _]) dX5_count_9 (by decide) rfl ?_
  refine go_iload dX5_count_11 rfl ?_
  refine go_if_ge 17 dX5_count_13 (by decide) (fun h13 => ?_) (fun h => absurd (nI_pos' (by omega)) h)
  refine go_aload_n dX5_count_17 rfl ?_
  refine go_getc dX5_count_18 fX5_15 rfl (by decide) (by decide) (by decide) rfl ?_
  refine go_iload_n dX5_count_21 rfl ?_
  refine go_iconst (nI 3) dX5_count_22 (by decide +kernel) ?_
  first | refine go_imul_n dX5_count_23 ?_ | refine go_imul dX5_count_23 rfl ?_
  refine go_iload_n dX5_count_24 rfl ?_
  first | refine go_iadd_n dX5_count_25 ?_ | refine go_iadd dX5_count_25 rfl ?_
  refine go_dup2 dX5_count_26 rfl rfl ?_
  refine go_iald dX5_count_27 rfl (by decide) rfl (by omega) (by decide) rfl ?_
  refine go_iload dX5_count_28 rfl ?_
  refine go_iadd dX5_count_30 rfl ?_
  refine go_iast dX5_count_31 rfl (by decide) rfl (by omega) (by decide) ?_
  refine go_mem (m1 := ctA m 8 p n st) (gup_asA _ _ _ _) ?_
  refine go_aload_n dX5_count_32 rfl ?_
  refine go_getc dX5_count_33 fX5_21 rfl (by decide) (by decide) (by decide) rfl ?_
  refine go_iload_n dX5_count_36 rfl ?_
  refine go_iconst (nI 3) dX5_count_37 (by decide +kernel) ?_
  first | refine go_imul_n dX5_count_38 ?_ | refine go_imul dX5_count_38 rfl ?_
  refine go_iload dX5_count_39 rfl ?_
  first | refine go_iadd_n dX5_count_41 ?_ | refine go_iadd dX5_count_41 rfl ?_
  refine go_dup2 dX5_count_42 rfl rfl ?_
  refine go_iald dX5_count_43 rfl (by decide) rfl (by omega) (by decide) rfl ?_
  refine go_iload dX5_count_44 rfl ?_
  refine go_iadd dX5_count_46 rfl ?_
  refine go_iast dX5_count_47 rfl (by decide) rfl (by omega) (by decide) ?_
  refine go_mem (m1 := ctB m 8 p n a st) (gup_asA _ _ _ _) ?_
  refine go_aload_n dX5_count_48 rfl ?_
  refine go_aload_n dX5_count_49 rfl ?_
  refine go_geti dX5_count_50 fX5_41 rfl (by decide) (by decide) (by decide) rfl hh ?_
  refine go_iload dX5_count_53 rfl ?_
  refine go_callV1 (K' := kX1_group) [_, _] dX5_count_55 mX5_53 lX1_group rfl (by decide) rfl (by decide) rfl rfl (Nat.le_of_ble_eq_true rfl) (Nat.le_of_ble_eq_true rfl) (c_group_35 h6 ha hG) ?_
  refine go_istore (L' := [_, _, _, _, _, _, _, _]) dX5_count_58 (by decide) rfl ?_
  refine go_mem (gupA_self (ctB m 8 p n a st) 11).symm ?_
  refine go_iconst (nI 0) dX5_count_60 (by decide +kernel) ?_
  refine go_istore (L' := [_, _, _, _, _, _, _, _]) dX5_count_61 (by decide) rfl ?_
  exact key P 0 (by omega)
theorem c_joinHalves_4 {O : gOm} {d : Nat} {m : gMem} {N : Nat} (hN : N ≤ 3) : Ca O d kX6_joinHalves [.ref 4, .int (nI N)] none m (gupA m 4 (jhP (m.1 4) N)) := by
  show Go O d kX6_joinHalves none _ 0 [.ref 4, .int (nI N)] [] m
  refine go_iload_n dX6_joinHalves_0 rfl ?_
  refine go_iconst (nI 3) dX6_joinHalves_1 (by decide +kernel) ?_
  refine go_icmp_ne 18 dX6_joinHalves_2 (by decide) (fun h2 => ?_) (fun h2 => ?_)
  · have z : ¬ N = 3 := fun z => h2 (by rw [z])
    have em : gupA m 4 (jhP (m.1 4) N) = m := by rw [jhP, if_neg z, gupA_self]
    exact go_vret dX6_joinHalves_18 rfl rfl em
  · have z : N = 3 := (nI_eq (by omega) (by omega)).mp h2
    have em : gupA m 4 (jhP (m.1 4) N) = gup m 4 2 (m.1 4 2 ||| (m.1 4 0 &&& m.1 4 1)) := by rw [jhP, if_pos z, ← gup_asA]
    refine go_aload_n dX6_joinHalves_5 rfl ?_
    refine go_iconst (nI 2) dX6_joinHalves_6 (by decide +kernel) ?_
    refine go_dup2 dX6_joinHalves_7 rfl rfl ?_
    refine go_iald dX6_joinHalves_8 rfl (by decide) rfl (by decide) (by decide) rfl ?_
    refine go_aload_n dX6_joinHalves_9 rfl ?_
    refine go_iconst (nI 0) dX6_joinHalves_10 (by decide +kernel) ?_
    refine go_iald dX6_joinHalves_11 rfl (by decide) rfl (by decide) (by decide) rfl ?_
    refine go_aload_n dX6_joinHalves_12 rfl ?_
    refine go_iconst (nI 1) dX6_joinHalves_13 (by decide +kernel) ?_
    refine go_iald dX6_joinHalves_14 rfl (by decide) rfl (by decide) (by decide) rfl ?_
    refine go_iand dX6_joinHalves_15 rfl ?_
    refine go_ior dX6_joinHalves_16 rfl ?_
    refine go_iast dX6_joinHalves_17 rfl (by decide) rfl (by decide) (by decide) ?_
    exact go_vret dX6_joinHalves_18 rfl rfl em
theorem c_joinHalves_9 {O : gOm} {d : Nat} {m : gMem} {N : Nat} (hN : N ≤ 3) : Ca O d kX6_joinHalves [.ref 9, .int (nI N)] none m (gupA m 9 (jhP (m.1 9) N)) := by
  show Go O d kX6_joinHalves none _ 0 [.ref 9, .int (nI N)] [] m
  refine go_iload_n dX6_joinHalves_0 rfl ?_
  refine go_iconst (nI 3) dX6_joinHalves_1 (by decide +kernel) ?_
  refine go_icmp_ne 18 dX6_joinHalves_2 (by decide) (fun h2 => ?_) (fun h2 => ?_)
  · have z : ¬ N = 3 := fun z => h2 (by rw [z])
    have em : gupA m 9 (jhP (m.1 9) N) = m := by rw [jhP, if_neg z, gupA_self]
    exact go_vret dX6_joinHalves_18 rfl rfl em
  · have z : N = 3 := (nI_eq (by omega) (by omega)).mp h2
    have em : gupA m 9 (jhP (m.1 9) N) = gup m 9 2 (m.1 9 2 ||| (m.1 9 0 &&& m.1 9 1)) := by rw [jhP, if_pos z, ← gup_asA]
    refine go_aload_n dX6_joinHalves_5 rfl ?_
    refine go_iconst (nI 2) dX6_joinHalves_6 (by decide +kernel) ?_
    refine go_dup2 dX6_joinHalves_7 rfl rfl ?_
    refine go_iald dX6_joinHalves_8 rfl (by decide) rfl (by decide) (by decide) rfl ?_
    refine go_aload_n dX6_joinHalves_9 rfl ?_
    refine go_iconst (nI 0) dX6_joinHalves_10 (by decide +kernel) ?_
    refine go_iald dX6_joinHalves_11 rfl (by decide) rfl (by decide) (by decide) rfl ?_
    refine go_aload_n dX6_joinHalves_12 rfl ?_
    refine go_iconst (nI 1) dX6_joinHalves_13 (by decide +kernel) ?_
    refine go_iald dX6_joinHalves_14 rfl (by decide) rfl (by decide) (by decide) rfl ?_
    refine go_iand dX6_joinHalves_15 rfl ?_
    refine go_ior dX6_joinHalves_16 rfl ?_
    refine go_iast dX6_joinHalves_17 rfl (by decide) rfl (by decide) (by decide) ?_
    exact go_vret dX6_joinHalves_18 rfl rfl em
theorem c_joinHalves_34 {O : gOm} {d : Nat} {m : gMem} {N : Nat} (hN : N ≤ 3) : Ca O d kX6_joinHalves [.ref 34, .int (nI N)] none m (gupA m 34 (jhP (m.1 34) N)) := by
  show Go O d kX6_joinHalves none _ 0 [.ref 34, .int (nI N)] [] m
  refine go_iload_n dX6_joinHalves_0 rfl ?_
  refine go_iconst (nI 3) dX6_joinHalves_1 (by decide +kernel) ?_
  refine go_icmp_ne 18 dX6_joinHalves_2 (by decide) (fun h2 => ?_) (fun h2 => ?_)
  · have z : ¬ N = 3 := fun z => h2 (by rw [z])
    have em : gupA m 34 (jhP (m.1 34) N) = m := by rw [jhP, if_neg z, gupA_self]
    exact go_vret dX6_joinHalves_18 rfl rfl em
  · have z : N = 3 := (nI_eq (by omega) (by omega)).mp h2
    have em : gupA m 34 (jhP (m.1 34) N) = gup m 34 2 (m.1 34 2 ||| (m.1 34 0 &&& m.1 34 1)) := by rw [jhP, if_pos z, ← gup_asA]
    refine go_aload_n dX6_joinHalves_5 rfl ?_
    refine go_iconst (nI 2) dX6_joinHalves_6 (by decide +kernel) ?_
    refine go_dup2 dX6_joinHalves_7 rfl rfl ?_
    refine go_iald dX6_joinHalves_8 rfl (by decide) rfl (by decide) (by decide) rfl ?_
    refine go_aload_n dX6_joinHalves_9 rfl ?_
    refine go_iconst (nI 0) dX6_joinHalves_10 (by decide +kernel) ?_
    refine go_iald dX6_joinHalves_11 rfl (by decide) rfl (by decide) (by decide) rfl ?_
    refine go_aload_n dX6_joinHalves_12 rfl ?_
    refine go_iconst (nI 1) dX6_joinHalves_13 (by decide +kernel) ?_
    refine go_iald dX6_joinHalves_14 rfl (by decide) rfl (by decide) (by decide) rfl ?_
    refine go_iand dX6_joinHalves_15 rfl ?_
    refine go_ior dX6_joinHalves_16 rfl ?_
    refine go_iast dX6_joinHalves_17 rfl (by decide) rfl (by decide) (by decide) ?_
    exact go_vret dX6_joinHalves_18 rfl rfl em
theorem c_joinHalves_40 {O : gOm} {d : Nat} {m : gMem} {N : Nat} (hN : N ≤ 3) : Ca O d kX6_joinHalves [.ref 40, .int (nI N)] none m (gupA m 40 (jhP (m.1 40) N)) := by
  show Go O d kX6_joinHalves none _ 0 [.ref 40, .int (nI N)] [] m
  refine go_iload_n dX6_joinHalves_0 rfl ?_
  refine go_iconst (nI 3) dX6_joinHalves_1 (by decide +kernel) ?_
  refine go_icmp_ne 18 dX6_joinHalves_2 (by decide) (fun h2 => ?_) (fun h2 => ?_)
  · have z : ¬ N = 3 := fun z => h2 (by rw [z])
    have em : gupA m 40 (jhP (m.1 40) N) = m := by rw [jhP, if_neg z, gupA_self]
    exact go_vret dX6_joinHalves_18 rfl rfl em
  · have z : N = 3 := (nI_eq (by omega) (by omega)).mp h2
    have em : gupA m 40 (jhP (m.1 40) N) = gup m 40 2 (m.1 40 2 ||| (m.1 40 0 &&& m.1 40 1)) := by rw [jhP, if_pos z, ← gup_asA]
    refine go_aload_n dX6_joinHalves_5 rfl ?_
    refine go_iconst (nI 2) dX6_joinHalves_6 (by decide +kernel) ?_
    refine go_dup2 dX6_joinHalves_7 rfl rfl ?_
    refine go_iald dX6_joinHalves_8 rfl (by decide) rfl (by decide) (by decide) rfl ?_
    refine go_aload_n dX6_joinHalves_9 rfl ?_
    refine go_iconst (nI 0) dX6_joinHalves_10 (by decide +kernel) ?_
    refine go_iald dX6_joinHalves_11 rfl (by decide) rfl (by decide) (by decide) rfl ?_
    refine go_aload_n dX6_joinHalves_12 rfl ?_
    refine go_iconst (nI 1) dX6_joinHalves_13 (by decide +kernel) ?_
    refine go_iald dX6_joinHalves_14 rfl (by decide) rfl (by decide) (by decide) rfl ?_
    refine go_iand dX6_joinHalves_15 rfl ?_
    refine go_ior dX6_joinHalves_16 rfl ?_
    refine go_iast dX6_joinHalves_17 rfl (by decide) rfl (by decide) (by decide) ?_
    exact go_vret dX6_joinHalves_18 rfl rfl em
theorem c_spread_3_29 {O : gOm} {d : Nat} {m : gMem} {P N h p n a G k : Nat} (hh : m.1 3 4 = nI h) (h6 : h < 6) (hp : p < 6) (hn : n < 3) (ha : a < 3) (hpl : m.1 30 (p * 6 + h) = nI a) (hG : m.1 31 (h * 3 + a) = nI G) (hG6 : G < 64) (hP : m.1 29 5 = nI P) (hP6 : P ≤ 6) (hN : m.1 29 6 = nI N) (hN3 : N ≤ 3) (hkn : m.1 4 n = nI k) (hk : k < 64) : Ca O (d + 2) kX5_spread [.ref 3, .ref 29, .int (nI p), .int (nI n)] (some (.int (nI (pc6 (G &&& (k ^^^ 63)))))) m (gupA (ctM m 3 p n a G P (nI 1)) 4 (jhP (upd (m.1 4) n (nI (k ||| G))) N)) := by
  show Go O (d + 2) kX5_spread _ _ 0 [.ref 3, .ref 29, .int (nI p), .int (nI n), .null, .null] [] m
  have hnk : G &&& (k ^^^ 63) < 64 := Nat.lt_of_le_of_lt Nat.and_le_left hG6
  refine go_aload_n dX5_spread_0 rfl ?_
  refine go_aload_n dX5_spread_1 rfl ?_
  refine go_geti dX5_spread_2 fX5_41 rfl (by decide) (by decide) (by decide) rfl hh ?_
  refine go_aload_n dX5_spread_5 rfl ?_
  refine go_iload_n dX5_spread_6 rfl ?_
  refine go_aload_n dX5_spread_7 rfl ?_
  refine go_geti dX5_spread_8 fX5_41 rfl (by decide) (by decide) (by decide) rfl hh ?_
  refine go_callV1 (K' := kX1_placeOf) [_, _] dX5_spread_11 mX5_45 lX1_placeOf rfl (by decide) rfl (by decide) rfl rfl (Nat.le_of_ble_eq_true rfl) (Nat.le_of_ble_eq_true rfl) (c_placeOf_29 hp h6 hpl) ?_
  refine go_callV1 (K' := kX1_group) [_, _] dX5_spread_14 mX5_53 lX1_group rfl (by decide) rfl (by decide) rfl rfl (Nat.le_of_ble_eq_true rfl) (Nat.le_of_ble_eq_true rfl) (c_group_29 h6 ha hG) ?_
  refine go_istore (L' := [_, _, _, _, _, _]) dX5_spread_17 (by decide) rfl ?_
  refine go_iload dX5_spread_19 rfl ?_
  refine go_aload_n dX5_spread_21 rfl ?_
  refine go_getc dX5_spread_22 fX5_9 rfl (by decide) (by decide) (by decide) rfl ?_
  refine go_iload_n dX5_spread_25 rfl ?_
  refine go_iald dX5_spread_26 rfl (by decide) rfl (by omega) (by decide) hkn ?_
  refine go_iconst (-1) dX5_spread_27 (by decide +kernel) ?_
  refine go_ixor dX5_spread_28 rfl ?_
  refine go_iand dX5_spread_29 (nk_eq G hG6 k hk) ?_
  refine go_callS1 (K' := kJ6_bitCount_0f7a4) [_] dX5_spread_30 mX5_70 lJ6_bitCount_0f7a4 rfl rfl (Nat.le_of_ble_eq_true rfl) (Nat.le_of_ble_eq_true rfl) (c_bitCount hnk) ?_
  refine go_istore (L' := [_, _, _, _, _, _]) dX5_spread_33 (by decide) rfl ?_
  refine go_aload_n dX5_spread_35 rfl ?_
  refine go_aload_n dX5_spread_36 rfl ?_
  refine go_iload_n dX5_spread_37 rfl ?_
  refine go_iload_n dX5_spread_38 rfl ?_
  refine go_iconst (nI 1) dX5_spread_39 (by decide +kernel) ?_
  refine go_callV0 (K' := kX5_count) [_, _, _, _] dX5_spread_40 mX5_75 lX5_count rfl (by decide) rfl (by decide) rfl rfl (Nat.le_of_ble_eq_true rfl) (Nat.le_of_ble_eq_true rfl) (c_count_3_29 hh h6 hp hn ha hpl hG hG6 hP hP6) ?_
  refine go_aload_n dX5_spread_43 rfl ?_
  refine go_getc dX5_spread_44 fX5_9 rfl (by decide) (by decide) (by decide) rfl ?_
  refine go_iload_n dX5_spread_47 rfl ?_
  refine go_dup2 dX5_spread_48 rfl rfl ?_
  refine go_iald dX5_spread_49 rfl (by decide) rfl (by omega) (by decide) hkn ?_
  refine go_iload dX5_spread_50 rfl ?_
  refine go_ior dX5_spread_52 (nb_or _ _) ?_
  refine go_iast dX5_spread_53 rfl (by decide) rfl (by omega) (by decide) ?_
  refine go_mem (m1 := (gupA (ctM m 3 p n a G P (nI 1)) 4 (upd (m.1 4) n (nI (k ||| G))))) (gup_asA _ _ _ _) ?_
  refine go_aload_n dX5_spread_54 rfl ?_
  refine go_getc dX5_spread_55 fX5_9 rfl (by decide) (by decide) (by decide) rfl ?_
  refine go_aload_n dX5_spread_58 rfl ?_
  refine go_geti dX5_spread_59 fX5_79 rfl (by decide) (by decide) (by decide) rfl hN ?_
  refine go_callS0 (K' := kX6_joinHalves) [_, _] dX5_spread_62 mX5_82 lX6_joinHalves rfl rfl (Nat.le_of_ble_eq_true rfl) (Nat.le_of_ble_eq_true rfl) (c_joinHalves_4 hN3) ?_
  refine go_iload dX5_spread_65 rfl ?_
  exact go_iret dX5_spread_67 rfl rfl (by rw [gupA_gupA, gupA_s])
theorem c_spread_3_35 {O : gOm} {d : Nat} {m : gMem} {P N h p n a G k : Nat} (hh : m.1 3 4 = nI h) (h6 : h < 6) (hp : p < 6) (hn : n < 3) (ha : a < 3) (hpl : m.1 36 (p * 6 + h) = nI a) (hG : m.1 37 (h * 3 + a) = nI G) (hG6 : G < 64) (hP : m.1 35 5 = nI P) (hP6 : P ≤ 6) (hN : m.1 35 6 = nI N) (hN3 : N ≤ 3) (hkn : m.1 4 n = nI k) (hk : k < 64) : Ca O (d + 2) kX5_spread [.ref 3, .ref 35, .int (nI p), .int (nI n)] (some (.int (nI (pc6 (G &&& (k ^^^ 63)))))) m (gupA (ctM m 3 p n a G P (nI 1)) 4 (jhP (upd (m.1 4) n (nI (k ||| G))) N)) := by
  show Go O (d + 2) kX5_spread _ _ 0 [.ref 3, .ref 35, .int (nI p), .int (nI n), .null, .null] [] m
  have hnk : G &&& (k ^^^ 63) < 64 := Nat.lt_of_le_of_lt Nat.and_le_left hG6
  refine go_aload_n dX5_spread_0 rfl ?_
  refine go_aload_n dX5_spread_1 rfl ?_
  refine go_geti dX5_spread_2 fX5_41 rfl (by decide) (by decide) (by decide) rfl hh ?_
  refine go_aload_n dX5_spread_5 rfl ?_
  refine go_iload_n dX5_spread_6 rfl ?_
  refine go_aload_n dX5_spread_7 rfl ?_
  refine go_geti dX5_spread_8 fX5_41 rfl (by decide) (by decide) (by decide) rfl hh ?_
  refine go_callV1 (K' := kX1_placeOf) [_, _] dX5_spread_11 mX5_45 lX1_placeOf rfl (by decide) rfl (by decide) rfl rfl (Nat.le_of_ble_eq_true rfl) (Nat.le_of_ble_eq_true rfl) (c_placeOf_35 hp h6 hpl) ?_
  refine go_callV1 (K' := kX1_group) [_, _] dX5_spread_14 mX5_53 lX1_group rfl (by decide) rfl (by decide) rfl rfl (Nat.le_of_ble_eq_true rfl) (Nat.le_of_ble_eq_true rfl) (c_group_35 h6 ha hG) ?_
  refine go_istore (L' := [_, _, _, _, _, _]) dX5_spread_17 (by decide) rfl ?_
  refine go_iload dX5_spread_19 rfl ?_
  refine go_aload_n dX5_spread_21 rfl ?_
  refine go_getc dX5_spread_22 fX5_9 rfl (by decide) (by decide) (by decide) rfl ?_
  refine go_iload_n dX5_spread_25 rfl ?_
  refine go_iald dX5_spread_26 rfl (by decide) rfl (by omega) (by decide) hkn ?_
  refine go_iconst (-1) dX5_spread_27 (by decide +kernel) ?_
  refine go_ixor dX5_spread_28 rfl ?_
  refine go_iand dX5_spread_29 (nk_eq G hG6 k hk) ?_
  refine go_callS1 (K' := kJ6_bitCount_0f7a4) [_] dX5_spread_30 mX5_70 lJ6_bitCount_0f7a4 rfl rfl (Nat.le_of_ble_eq_true rfl) (Nat.le_of_ble_eq_true rfl) (c_bitCount hnk) ?_
  refine go_istore (L' := [_, _, _, _, _, _]) dX5_spread_33 (by decide) rfl ?_
  refine go_aload_n dX5_spread_35 rfl ?_
  refine go_aload_n dX5_spread_36 rfl ?_
  refine go_iload_n dX5_spread_37 rfl ?_
  refine go_iload_n dX5_spread_38 rfl ?_
  refine go_iconst (nI 1) dX5_spread_39 (by decide +kernel) ?_
  refine go_callV0 (K' := kX5_count) [_, _, _, _] dX5_spread_40 mX5_75 lX5_count rfl (by decide) rfl (by decide) rfl rfl (Nat.le_of_ble_eq_true rfl) (Nat.le_of_ble_eq_true rfl) (c_count_3_35 hh h6 hp hn ha hpl hG hG6 hP hP6) ?_
  refine go_aload_n dX5_spread_43 rfl ?_
  refine go_getc dX5_spread_44 fX5_9 rfl (by decide) (by decide) (by decide) rfl ?_
  refine go_iload_n dX5_spread_47 rfl ?_
  refine go_dup2 dX5_spread_48 rfl rfl ?_
  refine go_iald dX5_spread_49 rfl (by decide) rfl (by omega) (by decide) hkn ?_
  refine go_iload dX5_spread_50 rfl ?_
  refine go_ior dX5_spread_52 (nb_or _ _) ?_
  refine go_iast dX5_spread_53 rfl (by decide) rfl (by omega) (by decide) ?_
  refine go_mem (m1 := (gupA (ctM m 3 p n a G P (nI 1)) 4 (upd (m.1 4) n (nI (k ||| G))))) (gup_asA _ _ _ _) ?_
  refine go_aload_n dX5_spread_54 rfl ?_
  refine go_getc dX5_spread_55 fX5_9 rfl (by decide) (by decide) (by decide) rfl ?_
  refine go_aload_n dX5_spread_58 rfl ?_
  refine go_geti dX5_spread_59 fX5_79 rfl (by decide) (by decide) (by decide) rfl hN ?_
  refine go_callS0 (K' := kX6_joinHalves) [_, _] dX5_spread_62 mX5_82 lX6_joinHalves rfl rfl (Nat.le_of_ble_eq_true rfl) (Nat.le_of_ble_eq_true rfl) (c_joinHalves_4 hN3) ?_
  refine go_iload dX5_spread_65 rfl ?_
  exact go_iret dX5_spread_67 rfl rfl (by rw [gupA_gupA, gupA_s])
theorem c_spread_8_29 {O : gOm} {d : Nat} {m : gMem} {P N h p n a G k : Nat} (hh : m.1 8 4 = nI h) (h6 : h < 6) (hp : p < 6) (hn : n < 3) (ha : a < 3) (hpl : m.1 30 (p * 6 + h) = nI a) (hG : m.1 31 (h * 3 + a) = nI G) (hG6 : G < 64) (hP : m.1 29 5 = nI P) (hP6 : P ≤ 6) (hN : m.1 29 6 = nI N) (hN3 : N ≤ 3) (hkn : m.1 9 n = nI k) (hk : k < 64) : Ca O (d + 2) kX5_spread [.ref 8, .ref 29, .int (nI p), .int (nI n)] (some (.int (nI (pc6 (G &&& (k ^^^ 63)))))) m (gupA (ctM m 8 p n a G P (nI 1)) 9 (jhP (upd (m.1 9) n (nI (k ||| G))) N)) := by
  show Go O (d + 2) kX5_spread _ _ 0 [.ref 8, .ref 29, .int (nI p), .int (nI n), .null, .null] [] m
  have hnk : G &&& (k ^^^ 63) < 64 := Nat.lt_of_le_of_lt Nat.and_le_left hG6
  refine go_aload_n dX5_spread_0 rfl ?_
  refine go_aload_n dX5_spread_1 rfl ?_
  refine go_geti dX5_spread_2 fX5_41 rfl (by decide) (by decide) (by decide) rfl hh ?_
  refine go_aload_n dX5_spread_5 rfl ?_
  refine go_iload_n dX5_spread_6 rfl ?_
  refine go_aload_n dX5_spread_7 rfl ?_
  refine go_geti dX5_spread_8 fX5_41 rfl (by decide) (by decide) (by decide) rfl hh ?_
  refine go_callV1 (K' := kX1_placeOf) [_, _] dX5_spread_11 mX5_45 lX1_placeOf rfl (by decide) rfl (by decide) rfl rfl (Nat.le_of_ble_eq_true rfl) (Nat.le_of_ble_eq_true rfl) (c_placeOf_29 hp h6 hpl) ?_
  refine go_callV1 (K' := kX1_group) [_, _] dX5_spread_14 mX5_53 lX1_group rfl (by decide) rfl (by decide) rfl rfl (Nat.le_of_ble_eq_true rfl) (Nat.le_of_ble_eq_true rfl) (c_group_29 h6 ha hG) ?_
  refine go_istore (L' := [_, _, _, _, _, _]) dX5_spread_17 (by decide) rfl ?_
  refine go_iload dX5_spread_19 rfl ?_
  refine go_aload_n dX5_spread_21 rfl ?_
  refine go_getc dX5_spread_22 fX5_9 rfl (by decide) (by decide) (by decide) rfl ?_
  refine go_iload_n dX5_spread_25 rfl ?_
  refine go_iald dX5_spread_26 rfl (by decide) rfl (by omega) (by decide) hkn ?_
  refine go_iconst (-1) dX5_spread_27 (by decide +kernel) ?_
  refine go_ixor dX5_spread_28 rfl ?_
  refine go_iand dX5_spread_29 (nk_eq G hG6 k hk) ?_
  refine go_callS1 (K' := kJ6_bitCount_0f7a4) [_] dX5_spread_30 mX5_70 lJ6_bitCount_0f7a4 rfl rfl (Nat.le_of_ble_eq_true rfl) (Nat.le_of_ble_eq_true rfl) (c_bitCount hnk) ?_
  refine go_istore (L' := [_, _, _, _, _, _]) dX5_spread_33 (by decide) rfl ?_
  refine go_aload_n dX5_spread_35 rfl ?_
  refine go_aload_n dX5_spread_36 rfl ?_
  refine go_iload_n dX5_spread_37 rfl ?_
  refine go_iload_n dX5_spread_38 rfl ?_
  refine go_iconst (nI 1) dX5_spread_39 (by decide +kernel) ?_
  refine go_callV0 (K' := kX5_count) [_, _, _, _] dX5_spread_40 mX5_75 lX5_count rfl (by decide) rfl (by decide) rfl rfl (Nat.le_of_ble_eq_true rfl) (Nat.le_of_ble_eq_true rfl) (c_count_8_29 hh h6 hp hn ha hpl hG hG6 hP hP6) ?_
  refine go_aload_n dX5_spread_43 rfl ?_
  refine go_getc dX5_spread_44 fX5_9 rfl (by decide) (by decide) (by decide) rfl ?_
  refine go_iload_n dX5_spread_47 rfl ?_
  refine go_dup2 dX5_spread_48 rfl rfl ?_
  refine go_iald dX5_spread_49 rfl (by decide) rfl (by omega) (by decide) hkn ?_
  refine go_iload dX5_spread_50 rfl ?_
  refine go_ior dX5_spread_52 (nb_or _ _) ?_
  refine go_iast dX5_spread_53 rfl (by decide) rfl (by omega) (by decide) ?_
  refine go_mem (m1 := (gupA (ctM m 8 p n a G P (nI 1)) 9 (upd (m.1 9) n (nI (k ||| G))))) (gup_asA _ _ _ _) ?_
  refine go_aload_n dX5_spread_54 rfl ?_
  refine go_getc dX5_spread_55 fX5_9 rfl (by decide) (by decide) (by decide) rfl ?_
  refine go_aload_n dX5_spread_58 rfl ?_
  refine go_geti dX5_spread_59 fX5_79 rfl (by decide) (by decide) (by decide) rfl hN ?_
  refine go_callS0 (K' := kX6_joinHalves) [_, _] dX5_spread_62 mX5_82 lX6_joinHalves rfl rfl (Nat.le_of_ble_eq_true rfl) (Nat.le_of_ble_eq_true rfl) (c_joinHalves_9 hN3) ?_
  refine go_iload dX5_spread_65 rfl ?_
  exact go_iret dX5_spread_67 rfl rfl (by rw [gupA_gupA, gupA_s])
theorem c_spread_8_35 {O : gOm} {d : Nat} {m : gMem} {P N h p n a G k : Nat} (hh : m.1 8 4 = nI h) (h6 : h < 6) (hp : p < 6) (hn : n < 3) (ha : a < 3) (hpl : m.1 36 (p * 6 + h) = nI a) (hG : m.1 37 (h * 3 + a) = nI G) (hG6 : G < 64) (hP : m.1 35 5 = nI P) (hP6 : P ≤ 6) (hN : m.1 35 6 = nI N) (hN3 : N ≤ 3) (hkn : m.1 9 n = nI k) (hk : k < 64) : Ca O (d + 2) kX5_spread [.ref 8, .ref 35, .int (nI p), .int (nI n)] (some (.int (nI (pc6 (G &&& (k ^^^ 63)))))) m (gupA (ctM m 8 p n a G P (nI 1)) 9 (jhP (upd (m.1 9) n (nI (k ||| G))) N)) := by
  show Go O (d + 2) kX5_spread _ _ 0 [.ref 8, .ref 35, .int (nI p), .int (nI n), .null, .null] [] m
  have hnk : G &&& (k ^^^ 63) < 64 := Nat.lt_of_le_of_lt Nat.and_le_left hG6
  refine go_aload_n dX5_spread_0 rfl ?_
  refine go_aload_n dX5_spread_1 rfl ?_
  refine go_geti dX5_spread_2 fX5_41 rfl (by decide) (by decide) (by decide) rfl hh ?_
  refine go_aload_n dX5_spread_5 rfl ?_
  refine go_iload_n dX5_spread_6 rfl ?_
  refine go_aload_n dX5_spread_7 rfl ?_
  refine go_geti dX5_spread_8 fX5_41 rfl (by decide) (by decide) (by decide) rfl hh ?_
  refine go_callV1 (K' := kX1_placeOf) [_, _] dX5_spread_11 mX5_45 lX1_placeOf rfl (by decide) rfl (by decide) rfl rfl (Nat.le_of_ble_eq_true rfl) (Nat.le_of_ble_eq_true rfl) (c_placeOf_35 hp h6 hpl) ?_
  refine go_callV1 (K' := kX1_group) [_, _] dX5_spread_14 mX5_53 lX1_group rfl (by decide) rfl (by decide) rfl rfl (Nat.le_of_ble_eq_true rfl) (Nat.le_of_ble_eq_true rfl) (c_group_35 h6 ha hG) ?_
  refine go_istore (L' := [_, _, _, _, _, _]) dX5_spread_17 (by decide) rfl ?_
  refine go_iload dX5_spread_19 rfl ?_
  refine go_aload_n dX5_spread_21 rfl ?_
  refine go_getc dX5_spread_22 fX5_9 rfl (by decide) (by decide) (by decide) rfl ?_
  refine go_iload_n dX5_spread_25 rfl ?_
  refine go_iald dX5_spread_26 rfl (by decide) rfl (by omega) (by decide) hkn ?_
  refine go_iconst (-1) dX5_spread_27 (by decide +kernel) ?_
  refine go_ixor dX5_spread_28 rfl ?_
  refine go_iand dX5_spread_29 (nk_eq G hG6 k hk) ?_
  refine go_callS1 (K' := kJ6_bitCount_0f7a4) [_] dX5_spread_30 mX5_70 lJ6_bitCount_0f7a4 rfl rfl (Nat.le_of_ble_eq_true rfl) (Nat.le_of_ble_eq_true rfl) (c_bitCount hnk) ?_
  refine go_istore (L' := [_, _, _, _, _, _]) dX5_spread_33 (by decide) rfl ?_
  refine go_aload_n dX5_spread_35 rfl ?_
  refine go_aload_n dX5_spread_36 rfl ?_
  refine go_iload_n dX5_spread_37 rfl ?_
  refine go_iload_n dX5_spread_38 rfl ?_
  refine go_iconst (nI 1) dX5_spread_39 (by decide +kernel) ?_
  refine go_callV0 (K' := kX5_count) [_, _, _, _] dX5_spread_40 mX5_75 lX5_count rfl (by decide) rfl (by decide) rfl rfl (Nat.le_of_ble_eq_true rfl) (Nat.le_of_ble_eq_true rfl) (c_count_8_35 hh h6 hp hn ha hpl hG hG6 hP hP6) ?_
  refine go_aload_n dX5_spread_43 rfl ?_
  refine go_getc dX5_spread_44 fX5_9 rfl (by decide) (by decide) (by decide) rfl ?_
  refine go_iload_n dX5_spread_47 rfl ?_
  refine go_dup2 dX5_spread_48 rfl rfl ?_
  refine go_iald dX5_spread_49 rfl (by decide) rfl (by omega) (by decide) hkn ?_
  refine go_iload dX5_spread_50 rfl ?_
  refine go_ior dX5_spread_52 (nb_or _ _) ?_
  refine go_iast dX5_spread_53 rfl (by decide) rfl (by omega) (by decide) ?_
  refine go_mem (m1 := (gupA (ctM m 8 p n a G P (nI 1)) 9 (upd (m.1 9) n (nI (k ||| G))))) (gup_asA _ _ _ _) ?_
  refine go_aload_n dX5_spread_54 rfl ?_
  refine go_getc dX5_spread_55 fX5_9 rfl (by decide) (by decide) (by decide) rfl ?_
  refine go_aload_n dX5_spread_58 rfl ?_
  refine go_geti dX5_spread_59 fX5_79 rfl (by decide) (by decide) (by decide) rfl hN ?_
  refine go_callS0 (K' := kX6_joinHalves) [_, _] dX5_spread_62 mX5_82 lX6_joinHalves rfl rfl (Nat.le_of_ble_eq_true rfl) (Nat.le_of_ble_eq_true rfl) (c_joinHalves_9 hN3) ?_
  refine go_iload dX5_spread_65 rfl ?_
  exact go_iret dX5_spread_67 rfl rfl (by rw [gupA_gupA, gupA_s])
