theorem c_hasIt {O : gOm} {d : Nat} {m : gMem} {P h k l : Nat} {gr : Nat → Nat} {v : Nat → Nat → Bool} (hP : m.1 46 4 = nI P) (hP6 : P ≤ 6) (hh : h < 6) (hk : k < 64) (hl : l ≤ 9) (hG : grp (m.1 48) P h = gr) (hg : ∀ a, gr a < 64) (hv : ∀ t e, t < 64 → e < 10 → m.1 67 (10 * t + e) = bI (v t e)) : Ca O (d + 3) kX7_hasIt [.ref 46, .int (nI h), .int (nI k), .int (nI l)] (some (.int (bI (smB gr v k l 4)))) m m := by
  have ca : ∀ a, Ca O (d + 2) kX7_canAt [.ref 46, .int (nI a), .int (nI h), .int (nI k)] (some (.int (bI (canB (gr a) k)))) m m := fun a => by
    rw [← hG]
    exact c_canAt hP hP6 hh hk
  have cb : ∀ a b, a < 4 → b < 4 → Ca O (d + 2) kX7_both [.ref 46, .int (nI a), .int (nI b), .int (nI h), .int (nI k)] (some (.int (nI (k ||| gr3 gr a ||| gr3 gr b)))) m m := fun a b ha hb => by
    rw [← hG]
    exact c_both hP hP6 hh ha hb
  have g64 : ∀ a, gr3 gr a < 64 := fun a => by
    unfold gr3
    split
    · exact hg a
    · omega
  have b64 : ∀ a b, k ||| gr3 gr a ||| gr3 gr b < 64 := fun a b => or_lt64 (or_lt64 hk (g64 a)) (g64 b)
  have out : ∀ q a, a + q = 4 → ∀ u6 u7 u8 u9 u10, Go O (d + 3) kX7_hasIt (some (.int (bI (smB gr v k l 4)))) m 6 [.ref 46, .int (nI h), .int (nI k), .int (nI l), .int (bI (smB gr v k l a)), .int (nI a), u6, u7, u8, u9, u10] [] m := by
    intro q
    induction q with
    | zero =>
      intro a ha u6 u7 u8 u9 u10
      obtain rfl : a = 4 := by omega
      refine go_iload dX7_hasIt_6 rfl ?_
      refine go_iconst (nI 3) dX7_hasIt_8 (by decide +kernel) ?_
      refine go_icmp_gt 178 dX7_hasIt_9 (by decide) (fun h9 => ?_) (fun h => absurd (nI_lt (by omega) (by omega)) h)
      refine go_iload dX7_hasIt_178 rfl ?_
      exact go_zret dX7_hasIt_180 rfl (bI_z _) rfl rfl
    | succ q ih =>
      intro a ha
      have hi := ih (a + 1) (by omega)
      rw [show smB gr v k l (a + 1) = (smB gr v k l a || alB gr v k l a 4) from rfl] at hi
      -- the end of one
      have f155 : ∀ u6 u8 u9 u10, Go O (d + 3) kX7_hasIt (some (.int (bI (smB gr v k l 4)))) m 155 [.ref 46, .int (nI h), .int (nI k), .int (nI l), .int (bI (smB gr v k l a)), .int (nI a), u6, .int (bI (alB gr v k l a 4)), u8, u9, u10] [] m := by
        intro u6 u8 u9 u10
        cases hs : smB gr v k l a with
        | true =>
          rw [hs] at hi
          refine go_iload dX7_hasIt_155 rfl ?_
          refine go_if_ne 165 dX7_hasIt_157 (by decide) (fun h157 => ?_) (fun h => absurd h (bI_n0.mpr rfl))
          refine go_iconst (nI 1) dX7_hasIt_165 (by decide +kernel) ?_
          refine go_goto 170 dX7_hasIt_166 (by decide) ?_
          refine go_istore (L' := [_, _, _, _, _, _, _, _, _, _, _]) dX7_hasIt_170 (by decide) rfl ?_
          refine go_iinc_n (L' := [_, _, _, _, _, _, _, _, _, _, _]) dX7_hasIt_172 rfl (by decide) rfl ?_
          refine go_goto 6 dX7_hasIt_175 (by decide) ?_
          exact hi _ _ _ _ _
        | false =>
          rw [hs] at hi
          cases he : alB gr v k l a 4 with
          | true =>
            rw [he] at hi
            refine go_iload dX7_hasIt_155 rfl ?_
            refine go_if_ne 165 dX7_hasIt_157 (by decide) (fun h => absurd h (fun q => q (bI_0.mpr rfl))) (fun h157 => ?_)
            refine go_iload dX7_hasIt_160 rfl ?_
            refine go_if_eq 169 dX7_hasIt_162 (by decide) (fun h => absurd h (bI_n0.mpr rfl)) (fun h162 => ?_)
            refine go_iconst (nI 1) dX7_hasIt_165 (by decide +kernel) ?_
            refine go_goto 170 dX7_hasIt_166 (by decide) ?_
            refine go_istore (L' := [_, _, _, _, _, _, _, _, _, _, _]) dX7_hasIt_170 (by decide) rfl ?_
            refine go_iinc_n (L' := [_, _, _, _, _, _, _, _, _, _, _]) dX7_hasIt_172 rfl (by decide) rfl ?_
            refine go_goto 6 dX7_hasIt_175 (by decide) ?_
            exact hi _ _ _ _ _
          | false =>
            rw [he] at hi
            refine go_iload dX7_hasIt_155 rfl ?_
            refine go_if_ne 165 dX7_hasIt_157 (by decide) (fun h => absurd h (fun q => q (bI_0.mpr rfl))) (fun h157 => ?_)
            refine go_iload dX7_hasIt_160 rfl ?_
            refine go_if_eq 169 dX7_hasIt_162 (by decide) (fun h162 => ?_) (fun h => absurd (bI_0.mpr rfl) h)
            refine go_iconst (nI 0) dX7_hasIt_169 (by decide +kernel) ?_
            refine go_istore (L' := [_, _, _, _, _, _, _, _, _, _, _]) dX7_hasIt_170 (by decide) rfl ?_
            refine go_iinc_n (L' := [_, _, _, _, _, _, _, _, _, _, _]) dX7_hasIt_172 rfl (by decide) rfl ?_
            refine go_goto 6 dX7_hasIt_175 (by decide) ?_
            exact hi _ _ _ _ _
      -- the others
      have inn : mayB gr k l a = true → ∀ q b, b + q = 4 → ∀ u10, Go O (d + 3) kX7_hasIt (some (.int (bI (smB gr v k l 4)))) m 62 [.ref 46, .int (nI h), .int (nI k), .int (nI l), .int (bI (smB gr v k l a)), .int (nI a), .int (bI true), .int (bI (alB gr v k l a b)), .int (nI (l - t3 a)), .int (nI b), u10] [] m := by
        intro hm q
        induction q with
        | zero =>
          intro b hb u10
          obtain rfl : b = 4 := by omega
          refine go_iload dX7_hasIt_62 rfl ?_
          refine go_iconst (nI 3) dX7_hasIt_64 (by decide +kernel) ?_
          refine go_icmp_gt 155 dX7_hasIt_65 (by decide) (fun h65 => ?_) (fun h => absurd (nI_lt (by omega) (by omega)) h)
          exact f155 _ _ _ _
        | succ q ihq =>
          intro b hb u10
          cases hab : alB gr v k l a b with
          | false =>
            have e4 := alB_f hab (4 - b)
            rw [show b + (4 - b) = 4 by omega] at e4
            rw [e4] at f155
            refine go_iload dX7_hasIt_62 rfl ?_
            refine go_iconst (nI 3) dX7_hasIt_64 (by decide +kernel) ?_
            refine go_icmp_gt 155 dX7_hasIt_65 (by decide) (fun h => absurd h (nI_nlt (by omega) (by omega))) (fun h65 => ?_)
            refine go_iload dX7_hasIt_68 rfl ?_
            refine go_if_eq 155 dX7_hasIt_70 (by decide) (fun h70 => ?_) (fun h => absurd (bI_0.mpr rfl) h)
            exact f155 _ _ _ _
          | true =>
            have hiq := ihq (b + 1) (by omega)
            rw [alB, hab, Bool.true_and] at hiq
            have hB := b64 a b
            -- behind the question whether it can be
            have f107 : ∀ (cn : Bool), cn = canO gr k (l - t3 a) a b → Go O (d + 3) kX7_hasIt (some (.int (bI (smB gr v k l 4)))) m 107 [.ref 46, .int (nI h), .int (nI k), .int (nI l), .int (bI (smB gr v k l a)), .int (nI a), .int (bI true), .int (bI true), .int (nI (l - t3 a)), .int (nI b), u10] [.int (bI cn)] m := by
              intro cn hcn
              have hst : ∀ w : Value, gst [.ref 46, .int (nI h), .int (nI k), .int (nI l), .int (bI (smB gr v k l a)), .int (nI a), .int (bI true), .int (bI true), .int (nI (l - t3 a)), .int (nI b), w] 10 (.int (bI cn)) = [.ref 46, .int (nI h), .int (nI k), .int (nI l), .int (bI (smB gr v k l a)), .int (nI a), .int (bI true), .int (bI true), .int (nI (l - t3 a)), .int (nI b), .int (bI cn)] := fun w => rfl
              refine go_istore dX7_hasIt_107 (by decide) (hst u10) ?_
              cases cn with
              | false =>
                rw [← hcn] at hiq
                refine go_iload dX7_hasIt_109 rfl ?_
                refine go_if_eq 149 dX7_hasIt_111 (by decide) (fun h111 => ?_) (fun h => absurd (bI_0.mpr rfl) h)
                refine go_iinc_n (L' := [_, _, _, _, _, _, _, _, _, _, _]) dX7_hasIt_149 rfl (by decide) rfl ?_
                refine go_goto 62 dX7_hasIt_152 (by decide) ?_
                exact hiq _
              | true =>
                rw [← hcn] at hiq
                have hiq : ∀ u10, Go O (d + 3) kX7_hasIt (some (.int (bI (smB gr v k l 4)))) m 62 [.ref 46, .int (nI h), .int (nI k), .int (nI l), .int (bI (smB gr v k l a)), .int (nI a), .int (bI true), .int (bI (v (k ||| gr3 gr a ||| gr3 gr b) (l - t3 a - t3 b))), .int (nI (l - t3 a)), .int (nI (b + 1)), u10] [] m := hiq
                have ev := hv (k ||| gr3 gr a ||| gr3 gr b) (l - t3 a - t3 b) hB (by omega)
                have cb1 := cb a b (by omega) (by omega)
                by_cases hb3 : b = 3
                · have et : t3 b = 0 := by rw [hb3]; rfl
                  rw [et] at ev hiq
                  refine go_iload dX7_hasIt_109 rfl ?_
                  refine go_if_eq 149 dX7_hasIt_111 (by decide) (fun h => absurd h (bI_n0.mpr rfl)) (fun h111 => ?_)
                  refine go_aload_n dX7_hasIt_114 rfl ?_
                  refine go_getc dX7_hasIt_115 fX7_71 rfl (by decide) (by decide) (by decide) rfl ?_
                  refine go_bipush (nI 10) dX7_hasIt_118 (by decide +kernel) ?_
                  refine go_aload_n dX7_hasIt_120 rfl ?_
                  refine go_iload dX7_hasIt_121 rfl ?_
                  refine go_iload dX7_hasIt_123 rfl ?_
                  refine go_iload_n dX7_hasIt_125 rfl ?_
                  refine go_iload_n dX7_hasIt_126 rfl ?_
                  refine go_callV1 (K' := kX7_both) [_, _, _, _] dX7_hasIt_127 mX7_204 lX7_both rfl (by decide) rfl (by decide) rfl rfl (Nat.le_of_ble_eq_true rfl) (Nat.le_of_ble_eq_true rfl) (cb1) ?_
                  first | refine go_imul_n dX7_hasIt_130 ?_ | refine go_imul dX7_hasIt_130 rfl ?_
                  refine go_iload dX7_hasIt_131 rfl ?_
                  first | refine go_iadd_n dX7_hasIt_133 ?_ | refine go_iadd dX7_hasIt_133 rfl ?_
                  refine go_iload dX7_hasIt_134 rfl ?_
                  refine go_iconst (nI 3) dX7_hasIt_136 (by decide +kernel) ?_
                  refine go_icmp_ge 144 dX7_hasIt_137 (by decide) (fun h137 => ?_) (fun h => absurd (nI_le (by omega) (by omega)) h)
                  refine go_iconst (nI 0) dX7_hasIt_144 (by decide +kernel) ?_
                  refine go_isub dX7_hasIt_145 (pk_sub (Nat.zero_le _)) ?_
                  refine go_zald dX7_hasIt_146 rfl (by decide) rfl (by omega) (by decide) ev ?_
                  refine go_istore (L' := [_, _, _, _, _, _, _, _, _, _, _]) dX7_hasIt_147 (by decide) rfl ?_
                  refine go_iinc_n (L' := [_, _, _, _, _, _, _, _, _, _, _]) dX7_hasIt_149 rfl (by decide) rfl ?_
                  refine go_goto 62 dX7_hasIt_152 (by decide) ?_
                  exact hiq _
                · have et : t3 b = 1 := if_pos (by omega)
                  have hrest : 0 < l - t3 a := by
                    have hcn2 := hcn.symm
                    simp only [canO, Bool.or_eq_true, Bool.and_eq_true, decide_eq_true_eq] at hcn2
                    rcases hcn2 with z | ⟨_, z, _⟩
                    · exact absurd z hb3
                    · exact z
                  rw [et] at ev hiq
                  rw [show 10 * (k ||| gr3 gr a ||| gr3 gr b) + (l - t3 a - 1) = 10 * (k ||| gr3 gr a ||| gr3 gr b) + (l - t3 a) - 1 by omega] at ev
                  refine go_iload dX7_hasIt_109 rfl ?_
                  refine go_if_eq 149 dX7_hasIt_111 (by decide) (fun h => absurd h (bI_n0.mpr rfl)) (fun h111 => ?_)
                  refine go_aload_n dX7_hasIt_114 rfl ?_
                  refine go_getc dX7_hasIt_115 fX7_71 rfl (by decide) (by decide) (by decide) rfl ?_
                  refine go_bipush (nI 10) dX7_hasIt_118 (by decide +kernel) ?_
                  refine go_aload_n dX7_hasIt_120 rfl ?_
                  refine go_iload dX7_hasIt_121 rfl ?_
                  refine go_iload dX7_hasIt_123 rfl ?_
                  refine go_iload_n dX7_hasIt_125 rfl ?_
                  refine go_iload_n dX7_hasIt_126 rfl ?_
                  refine go_callV1 (K' := kX7_both) [_, _, _, _] dX7_hasIt_127 mX7_204 lX7_both rfl (by decide) rfl (by decide) rfl rfl (Nat.le_of_ble_eq_true rfl) (Nat.le_of_ble_eq_true rfl) (cb1) ?_
                  first | refine go_imul_n dX7_hasIt_130 ?_ | refine go_imul dX7_hasIt_130 rfl ?_
                  refine go_iload dX7_hasIt_131 rfl ?_
                  first | refine go_iadd_n dX7_hasIt_133 ?_ | refine go_iadd dX7_hasIt_133 rfl ?_
                  refine go_iload dX7_hasIt_134 rfl ?_
                  refine go_iconst (nI 3) dX7_hasIt_136 (by decide +kernel) ?_
                  refine go_icmp_ge 144 dX7_hasIt_137 (by decide) (fun h => absurd h (nI_ge (by omega) (by omega))) (fun h137 => ?_)
                  refine go_iconst (nI 1) dX7_hasIt_140 (by decide +kernel) ?_
                  refine go_goto 145 dX7_hasIt_141 (by decide) ?_
                  refine go_isub dX7_hasIt_145 (pk_sub (by omega)) ?_
                  refine go_zald dX7_hasIt_146 rfl (by decide) rfl (by omega) (by decide) ev ?_
                  refine go_istore (L' := [_, _, _, _, _, _, _, _, _, _, _]) dX7_hasIt_147 (by decide) rfl ?_
                  refine go_iinc_n (L' := [_, _, _, _, _, _, _, _, _, _, _]) dX7_hasIt_149 rfl (by decide) rfl ?_
                  refine go_goto 62 dX7_hasIt_152 (by decide) ?_
                  exact hiq _
            by_cases hb3 : b = 3
            · have g1 := f107 true (by simp [canO, hb3])
              refine go_iload dX7_hasIt_62 rfl ?_
              refine go_iconst (nI 3) dX7_hasIt_64 (by decide +kernel) ?_
              refine go_icmp_gt 155 dX7_hasIt_65 (by decide) (fun h => absurd h (nI_nlt (by omega) (by omega))) (fun h65 => ?_)
              refine go_iload dX7_hasIt_68 rfl ?_
              refine go_if_eq 155 dX7_hasIt_70 (by decide) (fun h => absurd h (bI_n0.mpr rfl)) (fun h70 => ?_)
              refine go_iload dX7_hasIt_73 rfl ?_
              refine go_iconst (nI 3) dX7_hasIt_75 (by decide +kernel) ?_
              refine go_icmp_eq 102 dX7_hasIt_76 (by decide) (fun h76 => ?_) (fun h => absurd (by rw [hb3]) h)
              refine go_iconst (nI 1) dX7_hasIt_102 (by decide +kernel) ?_
              refine go_goto 107 dX7_hasIt_103 (by decide) ?_
              exact g1
            · by_cases hba : b = a
              · have g1 := f107 false (by have z : a ≠ 3 := hba ▸ hb3; simp [canO, hba, z])
                refine go_iload dX7_hasIt_62 rfl ?_
                refine go_iconst (nI 3) dX7_hasIt_64 (by decide +kernel) ?_
                refine go_icmp_gt 155 dX7_hasIt_65 (by decide) (fun h => absurd h (nI_nlt (by omega) (by omega))) (fun h65 => ?_)
                refine go_iload dX7_hasIt_68 rfl ?_
                refine go_if_eq 155 dX7_hasIt_70 (by decide) (fun h => absurd h (bI_n0.mpr rfl)) (fun h70 => ?_)
                refine go_iload dX7_hasIt_73 rfl ?_
                refine go_iconst (nI 3) dX7_hasIt_75 (by decide +kernel) ?_
                refine go_icmp_eq 102 dX7_hasIt_76 (by decide) (fun h => absurd h (fun q => hb3 ((nI_eq (by omega) (by omega)).mp q))) (fun h76 => ?_)
                refine go_iload dX7_hasIt_79 rfl ?_
                refine go_iload dX7_hasIt_81 rfl ?_
                refine go_icmp_eq 106 dX7_hasIt_83 (by decide) (fun h83 => ?_) (fun h => absurd (by rw [hba]) h)
                refine go_iconst (nI 0) dX7_hasIt_106 (by decide +kernel) ?_
                exact g1
              · by_cases hr0 : l - t3 a = 0
                · have g1 := f107 false (by simp [canO, hb3, hr0])
                  refine go_iload dX7_hasIt_62 rfl ?_
                  refine go_iconst (nI 3) dX7_hasIt_64 (by decide +kernel) ?_
                  refine go_icmp_gt 155 dX7_hasIt_65 (by decide) (fun h => absurd h (nI_nlt (by omega) (by omega))) (fun h65 => ?_)
                  refine go_iload dX7_hasIt_68 rfl ?_
                  refine go_if_eq 155 dX7_hasIt_70 (by decide) (fun h => absurd h (bI_n0.mpr rfl)) (fun h70 => ?_)
                  refine go_iload dX7_hasIt_73 rfl ?_
                  refine go_iconst (nI 3) dX7_hasIt_75 (by decide +kernel) ?_
                  refine go_icmp_eq 102 dX7_hasIt_76 (by decide) (fun h => absurd h (fun q => hb3 ((nI_eq (by omega) (by omega)).mp q))) (fun h76 => ?_)
                  refine go_iload dX7_hasIt_79 rfl ?_
                  refine go_iload dX7_hasIt_81 rfl ?_
                  refine go_icmp_eq 106 dX7_hasIt_83 (by decide) (fun h => absurd h (fun q => hba ((nI_eq (by omega) (by omega)).mp q))) (fun h83 => ?_)
                  refine go_iload dX7_hasIt_86 rfl ?_
                  refine go_if_le 106 dX7_hasIt_88 (by decide) (fun h88 => ?_) (fun h => absurd (by rw [hr0]; decide +kernel) h)
                  refine go_iconst (nI 0) dX7_hasIt_106 (by decide +kernel) ?_
                  exact g1
                · have ca1 := ca b
                  cases hcb : canB (gr b) k with
                  | true =>
                    rw [hcb] at ca1
                    have g1 := f107 true (by simp [canO, hb3, hba, hcb]; omega)
                    refine go_iload dX7_hasIt_62 rfl ?_
                    refine go_iconst (nI 3) dX7_hasIt_64 (by decide +kernel) ?_
                    refine go_icmp_gt 155 dX7_hasIt_65 (by decide) (fun h => absurd h (nI_nlt (by omega) (by omega))) (fun h65 => ?_)
                    refine go_iload dX7_hasIt_68 rfl ?_
                    refine go_if_eq 155 dX7_hasIt_70 (by decide) (fun h => absurd h (bI_n0.mpr rfl)) (fun h70 => ?_)
                    refine go_iload dX7_hasIt_73 rfl ?_
                    refine go_iconst (nI 3) dX7_hasIt_75 (by decide +kernel) ?_
                    refine go_icmp_eq 102 dX7_hasIt_76 (by decide) (fun h => absurd h (fun q => hb3 ((nI_eq (by omega) (by omega)).mp q))) (fun h76 => ?_)
                    refine go_iload dX7_hasIt_79 rfl ?_
                    refine go_iload dX7_hasIt_81 rfl ?_
                    refine go_icmp_eq 106 dX7_hasIt_83 (by decide) (fun h => absurd h (fun q => hba ((nI_eq (by omega) (by omega)).mp q))) (fun h83 => ?_)
                    refine go_iload dX7_hasIt_86 rfl ?_
                    refine go_if_le 106 dX7_hasIt_88 (by decide) (fun h => absurd h (nI_nle (by omega) (by omega))) (fun h88 => ?_)
                    refine go_aload_n dX7_hasIt_91 rfl ?_
                    refine go_iload dX7_hasIt_92 rfl ?_
                    refine go_iload_n dX7_hasIt_94 rfl ?_
                    refine go_iload_n dX7_hasIt_95 rfl ?_
                    refine go_callV1 (K' := kX7_canAt) [_, _, _] dX7_hasIt_96 mX7_179 lX7_canAt rfl (by decide) rfl (by decide) rfl rfl (Nat.le_of_ble_eq_true rfl) (Nat.le_of_ble_eq_true rfl) (ca1) ?_
                    refine go_if_eq 106 dX7_hasIt_99 (by decide) (fun h => absurd h (bI_n0.mpr rfl)) (fun h99 => ?_)
                    refine go_iconst (nI 1) dX7_hasIt_102 (by decide +kernel) ?_
                    refine go_goto 107 dX7_hasIt_103 (by decide) ?_
                    exact g1
                  | false =>
                    rw [hcb] at ca1
                    have g1 := f107 false (by simp [canO, hb3, hcb])
                    refine go_iload dX7_hasIt_62 rfl ?_
                    refine go_iconst (nI 3) dX7_hasIt_64 (by decide +kernel) ?_
                    refine go_icmp_gt 155 dX7_hasIt_65 (by decide) (fun h => absurd h (nI_nlt (by omega) (by omega))) (fun h65 => ?_)
                    refine go_iload dX7_hasIt_68 rfl ?_
                    refine go_if_eq 155 dX7_hasIt_70 (by decide) (fun h => absurd h (bI_n0.mpr rfl)) (fun h70 => ?_)
                    refine go_iload dX7_hasIt_73 rfl ?_
                    refine go_iconst (nI 3) dX7_hasIt_75 (by decide +kernel) ?_
                    refine go_icmp_eq 102 dX7_hasIt_76 (by decide) (fun h => absurd h (fun q => hb3 ((nI_eq (by omega) (by omega)).mp q))) (fun h76 => ?_)
                    refine go_iload dX7_hasIt_79 rfl ?_
                    refine go_iload dX7_hasIt_81 rfl ?_
                    refine go_icmp_eq 106 dX7_hasIt_83 (by decide) (fun h => absurd h (fun q => hba ((nI_eq (by omega) (by omega)).mp q))) (fun h83 => ?_)
                    refine go_iload dX7_hasIt_86 rfl ?_
                    refine go_if_le 106 dX7_hasIt_88 (by decide) (fun h => absurd h (nI_nle (by omega) (by omega))) (fun h88 => ?_)
                    refine go_aload_n dX7_hasIt_91 rfl ?_
                    refine go_iload dX7_hasIt_92 rfl ?_
                    refine go_iload_n dX7_hasIt_94 rfl ?_
                    refine go_iload_n dX7_hasIt_95 rfl ?_
                    refine go_callV1 (K' := kX7_canAt) [_, _, _] dX7_hasIt_96 mX7_179 lX7_canAt rfl (by decide) rfl (by decide) rfl rfl (Nat.le_of_ble_eq_true rfl) (Nat.le_of_ble_eq_true rfl) (ca1) ?_
                    refine go_if_eq 106 dX7_hasIt_99 (by decide) (fun h99 => ?_) (fun h => absurd (bI_0.mpr rfl) h)
                    refine go_iconst (nI 0) dX7_hasIt_106 (by decide +kernel) ?_
                    exact g1
      intro u6 u7 u8 u9 u10
      -- whether it may be
      have st6 : ∀ (x : Int32) (w6 w7 w8 w9 w10 : Value), gst [.ref 46, .int (nI h), .int (nI k), .int (nI l), .int (bI (smB gr v k l a)), .int (nI a), w6, w7, w8, w9, w10] 6 (.int x) = [.ref 46, .int (nI h), .int (nI k), .int (nI l), .int (bI (smB gr v k l a)), .int (nI a), .int x, w7, w8, w9, w10] := by
        intro x w6 w7 w8 w9 w10
        rfl
      have st7 : ∀ (x y : Int32) (w7 w8 w9 w10 : Value), gst [.ref 46, .int (nI h), .int (nI k), .int (nI l), .int (bI (smB gr v k l a)), .int (nI a), .int y, w7, w8, w9, w10] 7 (.int x) = [.ref 46, .int (nI h), .int (nI k), .int (nI l), .int (bI (smB gr v k l a)), .int (nI a), .int y, .int x, w8, w9, w10] := by
        intro x y w7 w8 w9 w10
        rfl
      have f38 : ∀ (mb : Bool), mb = mayB gr k l a → Go O (d + 3) kX7_hasIt (some (.int (bI (smB gr v k l 4)))) m 38 [.ref 46, .int (nI h), .int (nI k), .int (nI l), .int (bI (smB gr v k l a)), .int (nI a), u6, u7, u8, u9, u10] [.int (bI mb)] m := by
        intro mb hmb
        refine go_istore dX7_hasIt_38 (by decide) (st6 _ _ _ _ _ _) ?_
        refine go_iload dX7_hasIt_40 rfl ?_
        refine go_istore dX7_hasIt_42 (by decide) (st7 _ _ _ _ _ _) ?_
        cases mb with
        | false =>
          have e4 := alB_f (gr := gr) (v := v) (k := k) (l := l) (a := a) (b := 0) (by rw [alB, ← hmb]) 4
          rw [e4] at f155
          by_cases ha3 : a = 3
          · exact absurd hmb (by simp [mayB, ha3])
          · have ea : a < 3 := by omega
            refine go_iload_n dX7_hasIt_44 rfl ?_
            refine go_iload dX7_hasIt_45 rfl ?_
            refine go_iconst (nI 3) dX7_hasIt_47 (by decide +kernel) ?_
            refine go_icmp_ge 55 dX7_hasIt_48 (by decide) (fun h => absurd h (nI_ge (by omega) (by omega))) (fun h48 => ?_)
            refine go_iconst (nI 1) dX7_hasIt_51 (by decide +kernel) ?_
            refine go_goto 56 dX7_hasIt_52 (by decide) ?_
            refine go_isub dX7_hasIt_56 rfl ?_
            refine go_istore (L' := [_, _, _, _, _, _, _, _, _, _, _]) dX7_hasIt_57 (by decide) rfl ?_
            refine go_iconst (nI 0) dX7_hasIt_59 (by decide +kernel) ?_
            refine go_istore (L' := [_, _, _, _, _, _, _, _, _, _, _]) dX7_hasIt_60 (by decide) rfl ?_
            refine go_iload dX7_hasIt_62 rfl ?_
            refine go_iconst (nI 3) dX7_hasIt_64 (by decide +kernel) ?_
            refine go_icmp_gt 155 dX7_hasIt_65 (by decide) (fun h => absurd h (by decide +kernel)) (fun h65 => ?_)
            refine go_iload dX7_hasIt_68 rfl ?_
            refine go_if_eq 155 dX7_hasIt_70 (by decide) (fun h70 => ?_) (fun h => absurd (bI_0.mpr rfl) h)
            exact f155 _ _ _ _
        | true =>
          have i0 := inn hmb.symm 4 0 (by omega)
          rw [alB, ← hmb] at i0
          by_cases ha3 : a = 3
          · have et : t3 a = 0 := by rw [ha3]; rfl
            rw [et] at i0
            refine go_iload_n dX7_hasIt_44 rfl ?_
            refine go_iload dX7_hasIt_45 rfl ?_
            refine go_iconst (nI 3) dX7_hasIt_47 (by decide +kernel) ?_
            refine go_icmp_ge 55 dX7_hasIt_48 (by decide) (fun h48 => ?_) (fun h => absurd (nI_le (by omega) (by omega)) h)
            refine go_iconst (nI 0) dX7_hasIt_55 (by decide +kernel) ?_
            refine go_isub dX7_hasIt_56 (pk_sub (Nat.zero_le _)) ?_
            refine go_istore (L' := [_, _, _, _, _, _, _, _, _, _, _]) dX7_hasIt_57 (by decide) rfl ?_
            refine go_iconst (nI 0) dX7_hasIt_59 (by decide +kernel) ?_
            refine go_istore (L' := [_, _, _, _, _, _, _, _, _, _, _]) dX7_hasIt_60 (by decide) rfl ?_
            exact i0 _
          · have et : t3 a = 1 := if_pos (by omega)
            have hl0 : 0 < l := by
              have z := hmb.symm
              simp only [mayB, Bool.or_eq_true, Bool.and_eq_true, decide_eq_true_eq] at z
              rcases z with z | ⟨z, _⟩
              · exact absurd z ha3
              · exact z
            rw [et] at i0
            refine go_iload_n dX7_hasIt_44 rfl ?_
            refine go_iload dX7_hasIt_45 rfl ?_
            refine go_iconst (nI 3) dX7_hasIt_47 (by decide +kernel) ?_
            refine go_icmp_ge 55 dX7_hasIt_48 (by decide) (fun h => absurd h (nI_ge (by omega) (by omega))) (fun h48 => ?_)
            refine go_iconst (nI 1) dX7_hasIt_51 (by decide +kernel) ?_
            refine go_goto 56 dX7_hasIt_52 (by decide) ?_
            refine go_isub dX7_hasIt_56 (pk_sub (by omega)) ?_
            refine go_istore (L' := [_, _, _, _, _, _, _, _, _, _, _]) dX7_hasIt_57 (by decide) rfl ?_
            refine go_iconst (nI 0) dX7_hasIt_59 (by decide +kernel) ?_
            refine go_istore (L' := [_, _, _, _, _, _, _, _, _, _, _]) dX7_hasIt_60 (by decide) rfl ?_
            exact i0 _
      by_cases ha3 : a = 3
      · have g1 := f38 true (by simp [mayB, ha3])
        refine go_iload dX7_hasIt_6 rfl ?_
        refine go_iconst (nI 3) dX7_hasIt_8 (by decide +kernel) ?_
        refine go_icmp_gt 178 dX7_hasIt_9 (by decide) (fun h => absurd h (nI_nlt (by omega) (by omega))) (fun h9 => ?_)
        refine go_iload dX7_hasIt_12 rfl ?_
        refine go_iconst (nI 3) dX7_hasIt_14 (by decide +kernel) ?_
        refine go_icmp_eq 33 dX7_hasIt_15 (by decide) (fun h15 => ?_) (fun h => absurd (by rw [ha3]) h)
        refine go_iconst (nI 1) dX7_hasIt_33 (by decide +kernel) ?_
        refine go_goto 38 dX7_hasIt_34 (by decide) ?_
        exact g1
      · by_cases hl0 : l = 0
        · have g1 := f38 false (by simp [mayB, ha3, hl0])
          refine go_iload dX7_hasIt_6 rfl ?_
          refine go_iconst (nI 3) dX7_hasIt_8 (by decide +kernel) ?_
          refine go_icmp_gt 178 dX7_hasIt_9 (by decide) (fun h => absurd h (nI_nlt (by omega) (by omega))) (fun h9 => ?_)
          refine go_iload dX7_hasIt_12 rfl ?_
          refine go_iconst (nI 3) dX7_hasIt_14 (by decide +kernel) ?_
          refine go_icmp_eq 33 dX7_hasIt_15 (by decide) (fun h => absurd h (fun q => ha3 ((nI_eq (by omega) (by omega)).mp q))) (fun h15 => ?_)
          refine go_iload_n dX7_hasIt_18 rfl ?_
          refine go_if_le 37 dX7_hasIt_19 (by decide) (fun h19 => ?_) (fun h => absurd (by rw [hl0]; decide +kernel) h)
          refine go_iconst (nI 0) dX7_hasIt_37 (by decide +kernel) ?_
          exact g1
        · have ca1 := ca a
          cases hcb : canB (gr a) k with
          | true =>
            rw [hcb] at ca1
            have g1 := f38 true (by simp [mayB, hcb]; omega)
            refine go_iload dX7_hasIt_6 rfl ?_
            refine go_iconst (nI 3) dX7_hasIt_8 (by decide +kernel) ?_
            refine go_icmp_gt 178 dX7_hasIt_9 (by decide) (fun h => absurd h (nI_nlt (by omega) (by omega))) (fun h9 => ?_)
            refine go_iload dX7_hasIt_12 rfl ?_
            refine go_iconst (nI 3) dX7_hasIt_14 (by decide +kernel) ?_
            refine go_icmp_eq 33 dX7_hasIt_15 (by decide) (fun h => absurd h (fun q => ha3 ((nI_eq (by omega) (by omega)).mp q))) (fun h15 => ?_)
            refine go_iload_n dX7_hasIt_18 rfl ?_
            refine go_if_le 37 dX7_hasIt_19 (by decide) (fun h => absurd h (nI_nle (by omega) (by omega))) (fun h19 => ?_)
            refine go_aload_n dX7_hasIt_22 rfl ?_
            refine go_iload dX7_hasIt_23 rfl ?_
            refine go_iload_n dX7_hasIt_25 rfl ?_
            refine go_iload_n dX7_hasIt_26 rfl ?_
            refine go_callV1 (K' := kX7_canAt) [_, _, _] dX7_hasIt_27 mX7_179 lX7_canAt rfl (by decide) rfl (by decide) rfl rfl (Nat.le_of_ble_eq_true rfl) (Nat.le_of_ble_eq_true rfl) (ca1) ?_
            refine go_if_eq 37 dX7_hasIt_30 (by decide) (fun h => absurd h (bI_n0.mpr rfl)) (fun h30 => ?_)
            refine go_iconst (nI 1) dX7_hasIt_33 (by decide +kernel) ?_
            refine go_goto 38 dX7_hasIt_34 (by decide) ?_
            exact g1
          | false =>
            rw [hcb] at ca1
            have g1 := f38 false (by simp [mayB, ha3, hcb])
            refine go_iload dX7_hasIt_6 rfl ?_
            refine go_iconst (nI 3) dX7_hasIt_8 (by decide +kernel) ?_
            refine go_icmp_gt 178 dX7_hasIt_9 (by decide) (fun h => absurd h (nI_nlt (by omega) (by omega))) (fun h9 => ?_)
            refine go_iload dX7_hasIt_12 rfl ?_
            refine go_iconst (nI 3) dX7_hasIt_14 (by decide +kernel) ?_
            refine go_icmp_eq 33 dX7_hasIt_15 (by decide) (fun h => absurd h (fun q => ha3 ((nI_eq (by omega) (by omega)).mp q))) (fun h15 => ?_)
            refine go_iload_n dX7_hasIt_18 rfl ?_
            refine go_if_le 37 dX7_hasIt_19 (by decide) (fun h => absurd h (nI_nle (by omega) (by omega))) (fun h19 => ?_)
            refine go_aload_n dX7_hasIt_22 rfl ?_
            refine go_iload dX7_hasIt_23 rfl ?_
            refine go_iload_n dX7_hasIt_25 rfl ?_
            refine go_iload_n dX7_hasIt_26 rfl ?_
            refine go_callV1 (K' := kX7_canAt) [_, _, _] dX7_hasIt_27 mX7_179 lX7_canAt rfl (by decide) rfl (by decide) rfl rfl (Nat.le_of_ble_eq_true rfl) (Nat.le_of_ble_eq_true rfl) (ca1) ?_
            refine go_if_eq 37 dX7_hasIt_30 (by decide) (fun h30 => ?_) (fun h => absurd (bI_0.mpr rfl) h)
            refine go_iconst (nI 0) dX7_hasIt_37 (by decide +kernel) ?_
            exact g1
  show Go O (d + 3) kX7_hasIt _ m 0 [.ref 46, .int (nI h), .int (nI k), .int (nI l), .null, .null, .null, .null, .null, .null, .null] [] m
  have o0 := out 4 0 (by omega)
  refine go_iconst (nI 0) dX7_hasIt_0 (by decide +kernel) ?_
  refine go_istore (L' := [_, _, _, _, _, _, _, _, _, _, _]) dX7_hasIt_1 (by decide) rfl ?_
  refine go_iconst (nI 0) dX7_hasIt_3 (by decide +kernel) ?_
  refine go_istore (L' := [_, _, _, _, _, _, _, _, _, _, _]) dX7_hasIt_4 (by decide) rfl ?_
  exact o0 _ _ _ _ _
theorem c_duelM {O : gOm} {d : Nat} {m : gMem} {P hr k0 n p a b N : Nat} {G : Nat → Nat → Nat} (hP : m.1 46 4 = nI P) (hP6 : P ≤ 6) (hpP : p < P) (hN : m.1 46 5 = nI N) (hN3 : N ≤ 3) (hnN : n < N) (hl : m.1 46 6 = nI 0) (hh : m.1 46 11 = nI hr) (hr6 : hr < 6) (hk0 : k0 < 64) (sk : m.1 52 (3 + n) = nI k0) (ha : m.1 49 n = nI a) (hb : m.1 52 n = nI b) (hab : b ≤ a) (ha9 : a ≤ 9) (hG : grp (m.1 48) P = G) : ∃ (g67 g68 : Nat → Int32), Ca O (d + 4) kX7_duel [.ref 46, .int (nI n), .int (nI p)] (some (.int (bI (vI G p (6 - hr) k0 (a - b))))) m (mm (gup m 46 0 (nI 0)) 67 68 g67 g68) := by
  obtain ⟨M, hM⟩ : ∃ M, gup m 46 0 (nI 0) = M := ⟨_, rfl⟩
  rw [hM]
  have Mg : ∀ k, k ≠ 46 → M.1 k = m.1 k := fun k hk => by rw [← hM, gup_k _ _ hk]
  have Mf : ∀ i, i ≠ 0 → M.1 46 i = m.1 46 i := fun i hi => by rw [← hM, gup_i _ _ hi]
  have q4 : M.1 46 4 = nI P := (Mf 4 (by decide)).trans hP
  have q5 : M.1 46 5 = nI N := (Mf 5 (by decide)).trans hN
  have q6 : M.1 46 6 = nI 0 := (Mf 6 (by decide)).trans hl
  have q11 : M.1 46 11 = nI hr := (Mf 11 (by decide)).trans hh
  have q48 : M.1 48 = m.1 48 := Mg 48 (by decide)
  have q49 : M.1 49 n = nI a := (congrFun (Mg 49 (by decide)) n).trans ha
  have q52 : M.1 52 n = nI b := (congrFun (Mg 52 (by decide)) n).trans hb
  have q52k : M.1 52 (3 + n) = nI k0 := (congrFun (Mg 52 (by decide)) (3 + n)).trans sk
  have hg : ∀ h a, G h a < 64 := fun h a => by rw [← hG]; exact grp_64 _ h a hP6
  obtain ⟨lf, hlf⟩ : ∃ lf, a - b = lf := ⟨_, rfl⟩
  rw [hlf]
  have hlf9 : lf ≤ 9 := by omega
  have hrs : ∀ q c (x y : Nat → Int32), c + q = 6 - hr → (∀ i, i < 640 → x i = bI (vI G p c (i / 10) (i % 10))) → ∃ (x' y' : Nat → Int32), ∀ u, Go O (d + 4) kX7_duel (some (.int (bI (vI G p (6 - hr) k0 lf)))) (mm M 67 68 x' y') 64 [.ref 46, .int (nI n), .int (nI p), .int (nI 5 - nI c), u] [] (mm M 67 68 x y) := by
    intro q
    induction q with
    | zero =>
      intro c x y hc hx
      obtain rfl : c = 6 - hr := by omega
      refine ⟨x, y, fun u => ?_⟩
      have ev := hx (10 * k0 + lf) (by omega)
      rw [show (10 * k0 + lf) / 10 = k0 by omega, show (10 * k0 + lf) % 10 = lf by omega] at ev
      cases hvv : vI G p (6 - hr) k0 lf with
      | true =>
        rw [hvv] at ev
        refine go_iload_n dX7_duel_64 rfl ?_
        refine go_aload_n dX7_duel_65 rfl ?_
        refine go_geti dX7_duel_66 fX7_137 rfl (by decide) (by decide) (by decide) rfl q11 ?_
        refine go_icmp_lt 148 dX7_duel_69 (by decide) (fun h69 => ?_) (fun h => absurd (h5e hr hr6) h)
        refine go_aload_n dX7_duel_148 rfl ?_
        refine go_getc dX7_duel_149 fX7_71 rfl (by decide) (by decide) (by decide) rfl ?_
        refine go_bipush (nI 10) dX7_duel_152 (by decide +kernel) ?_
        refine go_aload_n dX7_duel_154 rfl ?_
        refine go_getc dX7_duel_155 fX7_25 rfl (by decide) (by decide) (by decide) rfl ?_
        refine go_iconst (nI 3) dX7_duel_158 (by decide +kernel) ?_
        refine go_iload_n dX7_duel_159 rfl ?_
        first | refine go_iadd_n dX7_duel_160 ?_ | refine go_iadd dX7_duel_160 rfl ?_
        refine go_iald dX7_duel_161 rfl (by decide) rfl (by omega) (by decide) q52k ?_
        first | refine go_imul_n dX7_duel_162 ?_ | refine go_imul dX7_duel_162 rfl ?_
        refine go_aload_n dX7_duel_163 rfl ?_
        refine go_iload_n dX7_duel_164 rfl ?_
        refine go_callV1 (K' := kX7_leftOf) [_] dX7_duel_165 mX7_191 lX7_leftOf rfl (by decide) rfl (by decide) rfl rfl (Nat.le_of_ble_eq_true rfl) (Nat.le_of_ble_eq_true rfl) (c_leftOf (by omega) q49 q52 hab) ?_
        rw [hlf]
        first | refine go_iadd_n dX7_duel_168 ?_ | refine go_iadd dX7_duel_168 rfl ?_
        refine go_zald dX7_duel_169 rfl (by decide) rfl (by omega) (by decide) ev ?_
        refine go_if_eq 177 dX7_duel_170 (by decide) (fun h => absurd h (bI_n0.mpr rfl)) (fun h170 => ?_)
        refine go_iconst (nI 1) dX7_duel_173 (by decide +kernel) ?_
        refine go_goto 178 dX7_duel_174 (by decide) ?_
        exact go_iret dX7_duel_178 rfl rfl rfl
      | false =>
        rw [hvv] at ev
        refine go_iload_n dX7_duel_64 rfl ?_
        refine go_aload_n dX7_duel_65 rfl ?_
        refine go_geti dX7_duel_66 fX7_137 rfl (by decide) (by decide) (by decide) rfl q11 ?_
        refine go_icmp_lt 148 dX7_duel_69 (by decide) (fun h69 => ?_) (fun h => absurd (h5e hr hr6) h)
        refine go_aload_n dX7_duel_148 rfl ?_
        refine go_getc dX7_duel_149 fX7_71 rfl (by decide) (by decide) (by decide) rfl ?_
        refine go_bipush (nI 10) dX7_duel_152 (by decide +kernel) ?_
        refine go_aload_n dX7_duel_154 rfl ?_
        refine go_getc dX7_duel_155 fX7_25 rfl (by decide) (by decide) (by decide) rfl ?_
        refine go_iconst (nI 3) dX7_duel_158 (by decide +kernel) ?_
        refine go_iload_n dX7_duel_159 rfl ?_
        first | refine go_iadd_n dX7_duel_160 ?_ | refine go_iadd dX7_duel_160 rfl ?_
        refine go_iald dX7_duel_161 rfl (by decide) rfl (by omega) (by decide) q52k ?_
        first | refine go_imul_n dX7_duel_162 ?_ | refine go_imul dX7_duel_162 rfl ?_
        refine go_aload_n dX7_duel_163 rfl ?_
        refine go_iload_n dX7_duel_164 rfl ?_
        refine go_callV1 (K' := kX7_leftOf) [_] dX7_duel_165 mX7_191 lX7_leftOf rfl (by decide) rfl (by decide) rfl rfl (Nat.le_of_ble_eq_true rfl) (Nat.le_of_ble_eq_true rfl) (c_leftOf (by omega) q49 q52 hab) ?_
        rw [hlf]
        first | refine go_iadd_n dX7_duel_168 ?_ | refine go_iadd dX7_duel_168 rfl ?_
        refine go_zald dX7_duel_169 rfl (by decide) rfl (by omega) (by decide) ev ?_
        refine go_if_eq 177 dX7_duel_170 (by decide) (fun h170 => ?_) (fun h => absurd (bI_0.mpr rfl) h)
        refine go_iconst (nI 0) dX7_duel_177 (by decide +kernel) ?_
        exact go_iret dX7_duel_178 rfl rfl rfl
    | succ q ihq =>
      intro c x y hc hx
      obtain ⟨yf, hyf⟩ : ∃ yf : Nat → Int32, (fun i => bI (smB (G (5 - c)) (vI G p c) (i / 10) (i % 10) 4)) = yf := ⟨_, rfl⟩
      obtain ⟨x', y', p1⟩ := ihq (c + 1) (flV x (flV y yf 640) 640) (flV y yf 640) (by omega) (fun i hi => by
        rw [flV_at, if_pos hi, flV_at, if_pos hi, ← hyf]
        rfl)
      refine ⟨x', y', fun u => ?_⟩
      have e5 : nI 5 - nI c = nI (5 - c) := pk_sub (by omega)
      rw [e5]
      have l2 : ∀ q k, k + q = 640 → Go O (d + 4) kX7_duel (some (.int (bI (vI G p (6 - hr) k0 lf)))) (mm M 67 68 x' y') 114 [.ref 46, .int (nI n), .int (nI p), .int (nI (5 - c)), .int (nI k)] [] (mm M 67 68 (flV x (flV y yf 640) k) (flV y yf 640)) := by
        intro q
        induction q with
        | zero =>
          intro k hk
          obtain rfl : k = 640 := by omega
          refine go_iload dX7_duel_114 rfl ?_
          refine go_sipush (nI 640) dX7_duel_116 (by decide +kernel) ?_
          refine go_icmp_ge 142 dX7_duel_119 (by decide) (fun h119 => ?_) (fun h => absurd (nI_le (by omega) (by omega)) h)
          refine go_iinc (L' := [_, _, _, _, _]) dX7_duel_142 rfl (by decide) (h5d c (by omega)) rfl ?_
          refine go_goto 64 dX7_duel_145 (by decide) ?_
          exact p1 _
        | succ q ih =>
          intro k hk
          have hi := ih (k + 1) (by omega)
          rw [show flV x (flV y yf 640) (k + 1) = upd (flV x (flV y yf 640) k) k (flV y yf 640 k) from rfl] at hi
          have zz : flV y yf 640 k = 0 ∨ flV y yf 640 k = 1 := by
            rw [flV_at, if_pos (by omega), ← hyf]
            exact bI_z _
          refine go_iload dX7_duel_114 rfl ?_
          refine go_sipush (nI 640) dX7_duel_116 (by decide +kernel) ?_
          refine go_icmp_ge 142 dX7_duel_119 (by decide) (fun h => absurd h (nI_ge (by omega) (by omega))) (fun h119 => ?_)
          refine go_aload_n dX7_duel_122 rfl ?_
          refine go_getc dX7_duel_123 fX7_71 rfl (by decide) (by decide) (by decide) rfl ?_
          refine go_iload dX7_duel_126 rfl ?_
          refine go_aload_n dX7_duel_128 rfl ?_
          refine go_getc dX7_duel_129 fX7_74 rfl (by decide) (by decide) (by decide) rfl ?_
          refine go_iload dX7_duel_132 rfl ?_
          refine go_zald dX7_duel_134 rfl (by decide) rfl (by omega) (by decide) rfl ?_
          refine go_zast dX7_duel_135 rfl (by decide) rfl (by omega) (by decide) zz ?_
          rw [mm_1 (by decide)]
          refine go_iinc_n (L' := [_, _, _, _, _]) dX7_duel_136 rfl (by decide) rfl ?_
          refine go_goto 114 dX7_duel_139 (by decide) ?_
          exact hi
      have l1 : ∀ q k, k + q = 640 → Go O (d + 4) kX7_duel (some (.int (bI (vI G p (6 - hr) k0 lf)))) (mm M 67 68 x' y') 75 [.ref 46, .int (nI n), .int (nI p), .int (nI (5 - c)), .int (nI k)] [] (mm M 67 68 x (flV y yf k)) := by
        intro q
        induction q with
        | zero =>
          intro k hk
          obtain rfl : k = 640 := by omega
          have l20 := l2 640 0 (by omega)
          refine go_iload dX7_duel_75 rfl ?_
          refine go_sipush (nI 640) dX7_duel_77 (by decide +kernel) ?_
          refine go_icmp_ge 111 dX7_duel_80 (by decide) (fun h80 => ?_) (fun h => absurd (nI_le (by omega) (by omega)) h)
          refine go_iconst (nI 0) dX7_duel_111 (by decide +kernel) ?_
          refine go_istore (L' := [_, _, _, _, _]) dX7_duel_112 (by decide) rfl ?_
          exact l20
        | succ q ih =>
          intro k hk
          have hi := ih (k + 1) (by omega)
          rw [show flV y yf (k + 1) = upd (flV y yf k) k (yf k) from rfl, show yf k = bI (smB (G (5 - c)) (vI G p c) (k / 10) (k % 10) 4) by rw [← hyf]] at hi
          have ch := c_hasIt (O := O) (d := d) (m := mm M 67 68 x (flV y yf k)) (P := P) (h := 5 - c) (k := k / 10) (l := k % 10) (gr := G (5 - c)) (v := vI G p c) q4 hP6 (by omega) (by omega) (by omega) (by rw [mm_k _ _ _ (by decide) (by decide), q48, hG]) (hg _) (fun t e ht he => by
            have z := hx (10 * t + e) (by omega)
            rw [show (10 * t + e) / 10 = t by omega, show (10 * t + e) % 10 = e by omega] at z
            exact z)
          refine go_iload dX7_duel_75 rfl ?_
          refine go_sipush (nI 640) dX7_duel_77 (by decide +kernel) ?_
          refine go_icmp_ge 111 dX7_duel_80 (by decide) (fun h => absurd h (nI_ge (by omega) (by omega))) (fun h80 => ?_)
          refine go_aload_n dX7_duel_83 rfl ?_
          refine go_getc dX7_duel_84 fX7_74 rfl (by decide) (by decide) (by decide) rfl ?_
          refine go_iload dX7_duel_87 rfl ?_
          refine go_aload_n dX7_duel_89 rfl ?_
          refine go_iload_n dX7_duel_90 rfl ?_
          refine go_iload dX7_duel_91 rfl ?_
          refine go_bipush (nI 10) dX7_duel_93 (by decide +kernel) ?_
          refine go_idiv dX7_duel_95 (by decide +kernel) (pk_div (by omega) (by omega) (by omega)) ?_
          refine go_iload dX7_duel_96 rfl ?_
          refine go_bipush (nI 10) dX7_duel_98 (by decide +kernel) ?_
          refine go_irem dX7_duel_100 (by decide +kernel) (pk_rem (by omega) (by omega) (by omega)) ?_
          refine go_callV1 (K' := kX7_hasIt) [_, _, _] dX7_duel_101 mX7_208 lX7_hasIt rfl (by decide) rfl (by decide) rfl rfl (Nat.le_of_ble_eq_true rfl) (Nat.le_of_ble_eq_true rfl) (ch) ?_
          refine go_zast dX7_duel_104 rfl (by decide) rfl (by omega) (by decide) (bI_z _) ?_
          rw [mm_2]
          refine go_iinc_n (L' := [_, _, _, _, _]) dX7_duel_105 rfl (by decide) rfl ?_
          refine go_goto 75 dX7_duel_108 (by decide) ?_
          exact hi
      have l10 := l1 640 0 (by omega)
      refine go_iload_n dX7_duel_64 rfl ?_
      refine go_aload_n dX7_duel_65 rfl ?_
      refine go_geti dX7_duel_66 fX7_137 rfl (by decide) (by decide) (by decide) rfl q11 ?_
      refine go_icmp_lt 148 dX7_duel_69 (by decide) (fun h => absurd h (nI_nlt (by omega) (by omega))) (fun h69 => ?_)
      refine go_iconst (nI 0) dX7_duel_72 (by decide +kernel) ?_
      refine go_istore (L' := [_, _, _, _, _]) dX7_duel_73 (by decide) rfl ?_
      exact l10
  have ini : ∀ res M', (∀ u, Go O (d + 4) kX7_duel res M' 62 [.ref 46, .int (nI n), .int (nI p), .int (nI 640), u] [] (mm M 67 68 (flV (M.1 67) (fun k => bI ((k / 10).testBit p)) 640) (M.1 68))) → ∀ q k, k + q = 640 → ∀ u, Go O (d + 4) kX7_duel res M' 35 [.ref 46, .int (nI n), .int (nI p), .int (nI k), u] [] (mm M 67 68 (flV (M.1 67) (fun k => bI ((k / 10).testBit p)) k) (M.1 68)) := by
    intro res M' kk q
    induction q with
    | zero =>
      intro k hk u
      obtain rfl : k = 640 := by omega
      refine go_iload_n dX7_duel_35 rfl ?_
      refine go_sipush (nI 640) dX7_duel_36 (by decide +kernel) ?_
      refine go_icmp_ge 62 dX7_duel_39 (by decide) (fun h39 => ?_) (fun h => absurd (nI_le (by omega) (by omega)) h)
      exact kk _
    | succ q ih =>
      intro k hk u
      have hi := ih (k + 1) (by omega) u
      rw [flV] at hi
      refine go_iload_n dX7_duel_35 rfl ?_
      refine go_sipush (nI 640) dX7_duel_36 (by decide +kernel) ?_
      refine go_icmp_ge 62 dX7_duel_39 (by decide) (fun h => absurd h (nI_ge (by omega) (by omega))) (fun h39 => ?_)
      refine go_aload_n dX7_duel_42 rfl ?_
      refine go_getc dX7_duel_43 fX7_71 rfl (by decide) (by decide) (by decide) rfl ?_
      refine go_iload_n dX7_duel_46 rfl ?_
      refine go_iload_n dX7_duel_47 rfl ?_
      refine go_bipush (nI 10) dX7_duel_48 (by decide +kernel) ?_
      refine go_idiv dX7_duel_50 (by decide +kernel) (pk_div (by omega) (by omega) (by omega)) ?_
      refine go_iload_n dX7_duel_51 rfl ?_
      refine go_callS1 (K' := kX7_has) [_, _] dX7_duel_52 mX7_109 lX7_has rfl rfl (Nat.le_of_ble_eq_true rfl) (Nat.le_of_ble_eq_true rfl) (c_has (by omega) (by omega)) ?_
      refine go_zast dX7_duel_55 rfl (by decide) rfl (by omega) (by decide) (bI_z _) ?_
      rw [mm_1 (by decide)]
      refine go_iinc_n (L' := [_, _, _, _, _]) dX7_duel_56 rfl (by decide) rfl ?_
      refine go_goto 35 dX7_duel_59 (by decide) ?_
      exact hi
  obtain ⟨x', y', p1⟩ := hrs (6 - hr) 0 (flV (M.1 67) (fun k => bI ((k / 10).testBit p)) 640) (M.1 68) (by omega) (fun i hi => by
    rw [flV_at, if_pos hi, vI])
  rw [show nI 5 - nI 0 = nI 5 from pk_sub (Nat.zero_le _)] at p1
  refine ⟨x', y', ?_⟩
  have f2 := ini (some (.int (bI (vI G p (6 - hr) k0 lf)))) (mm M 67 68 x' y') (fun u => by
    refine go_iconst (nI 5) dX7_duel_62 (by decide +kernel) ?_
    refine go_istore_n (L' := [_, _, _, _, _]) dX7_duel_63 (by decide) rfl ?_
    exact p1 _) 640 0 (by omega)
  show Go O (d + 4) kX7_duel _ _ 0 [.ref 46, .int (nI n), .int (nI p), .null, .null] [] m
  refine go_aload_n dX7_duel_0 rfl ?_
  refine go_iconst (nI 0) dX7_duel_1 (by decide +kernel) ?_
  refine go_puti dX7_duel_2 fX7_77 rfl (by decide) (by decide) (by decide) rfl (fun _ _ _ h => by cases h; rfl) (Or.inl rfl) ?_
  rw [hM]
  refine go_aload_n dX7_duel_5 rfl ?_
  refine go_iload_n dX7_duel_6 rfl ?_
  refine go_callV1 (K' := kX7_noOne) [_] dX7_duel_7 mX7_150 lX7_noOne rfl (by decide) rfl (by decide) rfl rfl (Nat.le_of_ble_eq_true rfl) (Nat.le_of_ble_eq_true rfl) (c_noOne q4 hP6) ?_
  refine go_if_ne 21 dX7_duel_10 (by decide) (fun h => absurd h (fun q => q (bI_0.mpr (by rw [iR_nI hpP (by omega)]; rfl)))) (fun h10 => ?_)
  refine go_aload_n dX7_duel_13 rfl ?_
  refine go_iload_n dX7_duel_14 rfl ?_
  refine go_callV1 (K' := kX7_noNews) [_] dX7_duel_15 mX7_155 lX7_noNews rfl (by decide) rfl (by decide) rfl rfl (Nat.le_of_ble_eq_true rfl) (Nat.le_of_ble_eq_true rfl) (c_noNews q5 (by omega)) ?_
  refine go_if_eq 23 dX7_duel_18 (by decide) (fun h18 => ?_) (fun h => absurd (bI_0.mpr (by rw [iR_nI hnN (by omega)]; rfl)) h)
  refine go_aload_n dX7_duel_23 rfl ?_
  refine go_geti dX7_duel_24 fX7_130 rfl (by decide) (by decide) (by decide) rfl q6 ?_
  refine go_if_eq 33 dX7_duel_27 (by decide) (fun h27 => ?_) (fun h => absurd (rfl) h)
  refine go_iconst (nI 0) dX7_duel_33 (by decide +kernel) ?_
  refine go_istore_n (L' := [_, _, _, _, _]) dX7_duel_34 (by decide) rfl ?_
  refine go_mem (mm_id M 67 68).symm ?_
  exact f2 _
theorem op_duel_29 {O : gOm} {d : Nat} {m : gMem} {n p : Int32} (h0 : Inv m) (hT : m.2 0 = 29) : OpOk O (d + 40) kX6_duel kX7_duel [.int n, .int p] m := by
  have hthr := h0.thr
  have hin0 := h0
  obtain ⟨P, N, lw, hr, a, c, L, lim, h1, h2, h3, h4, h5, h6, h7, h8⟩ := h0
  obtain ⟨hP, hP6, hN, hN3, hlw, hl3, hw, hlim, hfs⟩ := id h2
  obtain ⟨t5, t6, t7, tp, tg, tn⟩ : IvT m 29 P N lw := hT ▸ h3
  obtain ⟨⟨s4, sk, st, sa, spl⟩, h11, ok1, ok2, ok3, ok4, ok5⟩ := id h4
  cases hip : iR p P with
  | false =>
    refine ⟨(-1), m, gup m 46 0 (nI 0), ?_, ?_, hthr⟩
    · show Go O (d + 40) kX6_duel _ _ 0 [.ref 0, .int n, .int p] [] m
      refine go_aload_n dX6_duel_0 rfl ?_
      refine go_iload_n dX6_duel_1 rfl ?_
      refine go_callV1 (K' := kX6_isPerson) [_] dX6_duel_2 mX6_105 lX6_isPerson rfl (by decide) rfl (by decide) rfl rfl (Nat.le_of_ble_eq_true rfl) (Nat.le_of_ble_eq_true rfl) (c_isPerson_29 hT t5 hP6) ?_
      refine go_if_eq 16 dX6_duel_5 (by decide) (fun h5 => ?_) (fun h => absurd (bI_0.mpr hip) h)
      refine go_iconst (-1) dX6_duel_16 (by decide +kernel) ?_
      exact go_iret dX6_duel_17 rfl rfl rfl
    · show Go O (d + 40) kX7_duel _ _ 0 [.ref 46, .int n, .int p, .null, .null] [] m
      refine go_aload_n dX7_duel_0 rfl ?_
      refine go_iconst (nI 0) dX7_duel_1 (by decide +kernel) ?_
      refine go_puti dX7_duel_2 fX7_77 rfl (by decide) (by decide) (by decide) rfl (fun _ _ _ h => by cases h; rfl) (Or.inl rfl) ?_
      refine go_aload_n dX7_duel_5 rfl ?_
      refine go_iload_n dX7_duel_6 rfl ?_
      refine go_callV1 (K' := kX7_noOne) [_] dX7_duel_7 mX7_150 lX7_noOne rfl (by decide) rfl (by decide) rfl rfl (Nat.le_of_ble_eq_true rfl) (Nat.le_of_ble_eq_true rfl) (c_noOne hP hP6) ?_
      refine go_if_ne 21 dX7_duel_10 (by decide) (fun h10 => ?_) (fun h => absurd h (bI_n0.mpr (by rw [hip]; rfl)))
      refine go_iconst (-1) dX7_duel_21 (by decide +kernel) ?_
      exact go_iret dX7_duel_22 rfl rfl rfl
  | true =>
  cases hin : iR n N with
  | false =>
    refine ⟨(-1), m, gup m 46 0 (nI 0), ?_, ?_, hthr⟩
    · show Go O (d + 40) kX6_duel _ _ 0 [.ref 0, .int n, .int p] [] m
      refine go_aload_n dX6_duel_0 rfl ?_
      refine go_iload_n dX6_duel_1 rfl ?_
      refine go_callV1 (K' := kX6_isPerson) [_] dX6_duel_2 mX6_105 lX6_isPerson rfl (by decide) rfl (by decide) rfl rfl (Nat.le_of_ble_eq_true rfl) (Nat.le_of_ble_eq_true rfl) (c_isPerson_29 hT t5 hP6) ?_
      refine go_if_eq 16 dX6_duel_5 (by decide) (fun h => absurd h (bI_n0.mpr hip)) (fun h5 => ?_)
      refine go_aload_n dX6_duel_8 rfl ?_
      refine go_iload_n dX6_duel_9 rfl ?_
      refine go_callV1 (K' := kX6_isNews) [_] dX6_duel_10 mX6_116 lX6_isNews rfl (by decide) rfl (by decide) rfl rfl (Nat.le_of_ble_eq_true rfl) (Nat.le_of_ble_eq_true rfl) (c_isNews_29 hT t6 (by omega)) ?_
      refine go_if_ne 18 dX6_duel_13 (by decide) (fun h => absurd h (fun q => q (bI_0.mpr hin))) (fun h13 => ?_)
      refine go_iconst (-1) dX6_duel_16 (by decide +kernel) ?_
      exact go_iret dX6_duel_17 rfl rfl rfl
    · show Go O (d + 40) kX7_duel _ _ 0 [.ref 46, .int n, .int p, .null, .null] [] m
      refine go_aload_n dX7_duel_0 rfl ?_
      refine go_iconst (nI 0) dX7_duel_1 (by decide +kernel) ?_
      refine go_puti dX7_duel_2 fX7_77 rfl (by decide) (by decide) (by decide) rfl (fun _ _ _ h => by cases h; rfl) (Or.inl rfl) ?_
      refine go_aload_n dX7_duel_5 rfl ?_
      refine go_iload_n dX7_duel_6 rfl ?_
      refine go_callV1 (K' := kX7_noOne) [_] dX7_duel_7 mX7_150 lX7_noOne rfl (by decide) rfl (by decide) rfl rfl (Nat.le_of_ble_eq_true rfl) (Nat.le_of_ble_eq_true rfl) (c_noOne hP hP6) ?_
      refine go_if_ne 21 dX7_duel_10 (by decide) (fun h => absurd h (fun q => q (bI_0.mpr (by rw [hip]; rfl)))) (fun h10 => ?_)
      refine go_aload_n dX7_duel_13 rfl ?_
      refine go_iload_n dX7_duel_14 rfl ?_
      refine go_callV1 (K' := kX7_noNews) [_] dX7_duel_15 mX7_155 lX7_noNews rfl (by decide) rfl (by decide) rfl rfl (Nat.le_of_ble_eq_true rfl) (Nat.le_of_ble_eq_true rfl) (c_noNews hN (by omega)) ?_
      refine go_if_eq 23 dX7_duel_18 (by decide) (fun h => absurd h (bI_n0.mpr (by rw [hin]; rfl))) (fun h18 => ?_)
      refine go_iconst (-1) dX7_duel_21 (by decide +kernel) ?_
      exact go_iret dX7_duel_22 rfl rfl rfl
  | true =>
    by_cases hl : lw = 0
    · subst hl
      obtain ⟨n, hnN, rfl⟩ := iR_of hin
      obtain ⟨p, hpP, rfl⟩ := iR_of hip
      obtain ⟨k, hk, ek⟩ := ok2 n (by omega)
      obtain ⟨b, hb, eb⟩ := ok4 n (by omega) hnN
      obtain ⟨l9, el⟩ := hlim n hnN
      obtain ⟨m1, c1, g, e0, e1⟩ := c_duelX_29 (O := O) (d := d + 24) (m := m) (G := grp (m.1 48) P) (hr := hr) (k0 := k) (n := n) (p := p) (a := lim n) (b := b) hT t5 hP6 hpP t6 hN3 hnN t7 (fun h a => grp_64 _ h a hP6) ok1 hk tg s4 ((sk n (by omega)).trans ek) ((tn n hnN).1.trans el) (by rw [spl n 0 (by omega) (by omega), spl n 1 (by omega) (by omega), spl n 2 (by omega) (by omega), ok3 n (by omega)]; exact eb) hb l9
      rw [won_eq (by omega) (fun h a => grp_64 _ h a hP6) _ _ _ hk (by omega)] at c1
      have g46 := g 46 (by decide) (by decide)
      have g48 := g 48 (by decide) (by decide)
      have g49 := g 49 (by decide) (by decide)
      have g52 := g 52 (by decide) (by decide)
      obtain ⟨x, y, c2⟩ := c_duelM (O := O) (d := d + 36) (m := m1) (P := P) (hr := hr) (k0 := k) (n := n) (p := p) (a := lim n) (b := b) (N := N) (G := grp (m.1 48) P) ((congrFun g46 4).trans hP) hP6 hpP ((congrFun g46 5).trans hN) hN3 hnN ((congrFun g46 6).trans hlw) ((congrFun g46 11).trans h11) ok1 hk ((congrFun g52 _).trans ek) ((congrFun g49 _).trans el) ((congrFun g52 _).trans eb) hb l9 (by rw [g48])
      exact ⟨_, _, _, c1, c2, mm_fr hin0 hT (by omega) (fun k hk => g k (by omega) (by omega)) e0 e1 (by omega) (by omega)⟩
    · refine ⟨(-3), m, gup m 46 0 (nI 0), ?_, ?_, hthr⟩
      · show Go O (d + 40) kX6_duel _ _ 0 [.ref 0, .int n, .int p] [] m
        refine go_aload_n dX6_duel_0 rfl ?_
        refine go_iload_n dX6_duel_1 rfl ?_
        refine go_callV1 (K' := kX6_isPerson) [_] dX6_duel_2 mX6_105 lX6_isPerson rfl (by decide) rfl (by decide) rfl rfl (Nat.le_of_ble_eq_true rfl) (Nat.le_of_ble_eq_true rfl) (c_isPerson_29 hT t5 hP6) ?_
        refine go_if_eq 16 dX6_duel_5 (by decide) (fun h => absurd h (bI_n0.mpr hip)) (fun h5 => ?_)
        refine go_aload_n dX6_duel_8 rfl ?_
        refine go_iload_n dX6_duel_9 rfl ?_
        refine go_callV1 (K' := kX6_isNews) [_] dX6_duel_10 mX6_116 lX6_isNews rfl (by decide) rfl (by decide) rfl rfl (Nat.le_of_ble_eq_true rfl) (Nat.le_of_ble_eq_true rfl) (c_isNews_29 hT t6 (by omega)) ?_
        refine go_if_ne 18 dX6_duel_13 (by decide) (fun h13 => ?_) (fun h => absurd h (bI_n0.mpr hin))
        refine go_aload_n dX6_duel_18 rfl ?_
        refine go_getm dX6_duel_19 fX6_47 rfl (by decide) (by decide) (by decide) rfl hT ?_
        refine go_geti dX6_duel_22 fX6_91 rfl (by decide) (by decide) (by decide) rfl t7 ?_
        refine go_if_eq 31 dX6_duel_25 (by decide) (fun h => absurd h (fun q => hl ((nI_eq (b := 0) (by omega) (by omega)).mp q))) (fun h25 => ?_)
        refine go_bipush (-3) dX6_duel_28 (by decide +kernel) ?_
        exact go_iret dX6_duel_30 rfl rfl rfl
      · show Go O (d + 40) kX7_duel _ _ 0 [.ref 46, .int n, .int p, .null, .null] [] m
        refine go_aload_n dX7_duel_0 rfl ?_
        refine go_iconst (nI 0) dX7_duel_1 (by decide +kernel) ?_
        refine go_puti dX7_duel_2 fX7_77 rfl (by decide) (by decide) (by decide) rfl (fun _ _ _ h => by cases h; rfl) (Or.inl rfl) ?_
        refine go_aload_n dX7_duel_5 rfl ?_
        refine go_iload_n dX7_duel_6 rfl ?_
        refine go_callV1 (K' := kX7_noOne) [_] dX7_duel_7 mX7_150 lX7_noOne rfl (by decide) rfl (by decide) rfl rfl (Nat.le_of_ble_eq_true rfl) (Nat.le_of_ble_eq_true rfl) (c_noOne hP hP6) ?_
        refine go_if_ne 21 dX7_duel_10 (by decide) (fun h => absurd h (fun q => q (bI_0.mpr (by rw [hip]; rfl)))) (fun h10 => ?_)
        refine go_aload_n dX7_duel_13 rfl ?_
        refine go_iload_n dX7_duel_14 rfl ?_
        refine go_callV1 (K' := kX7_noNews) [_] dX7_duel_15 mX7_155 lX7_noNews rfl (by decide) rfl (by decide) rfl rfl (Nat.le_of_ble_eq_true rfl) (Nat.le_of_ble_eq_true rfl) (c_noNews hN (by omega)) ?_
        refine go_if_eq 23 dX7_duel_18 (by decide) (fun h18 => ?_) (fun h => absurd (bI_0.mpr (by rw [hin]; rfl)) h)
        refine go_aload_n dX7_duel_23 rfl ?_
        refine go_geti dX7_duel_24 fX7_130 rfl (by decide) (by decide) (by decide) rfl hlw ?_
        refine go_if_eq 33 dX7_duel_27 (by decide) (fun h => absurd h (fun q => hl ((nI_eq (b := 0) (by omega) (by omega)).mp q))) (fun h27 => ?_)
        refine go_bipush (-3) dX7_duel_30 (by decide +kernel) ?_
        exact go_iret dX7_duel_32 rfl rfl rfl
theorem op_duel_35 {O : gOm} {d : Nat} {m : gMem} {n p : Int32} (h0 : Inv m) (hT : m.2 0 = 35) : OpOk O (d + 40) kX6_duel kX7_duel [.int n, .int p] m := by
  have hthr := h0.thr
  have hin0 := h0
  obtain ⟨P, N, lw, hr, a, c, L, lim, h1, h2, h3, h4, h5, h6, h7, h8⟩ := h0
  obtain ⟨hP, hP6, hN, hN3, hlw, hl3, hw, hlim, hfs⟩ := id h2
  obtain ⟨t5, t6, t7, tp, tg, tn⟩ : IvT m 35 P N lw := hT ▸ h3
  obtain ⟨⟨s4, sk, st, sa, spl⟩, h11, ok1, ok2, ok3, ok4, ok5⟩ := id h4
  cases hip : iR p P with
  | false =>
    refine ⟨(-1), m, gup m 46 0 (nI 0), ?_, ?_, hthr⟩
    · show Go O (d + 40) kX6_duel _ _ 0 [.ref 0, .int n, .int p] [] m
      refine go_aload_n dX6_duel_0 rfl ?_
      refine go_iload_n dX6_duel_1 rfl ?_
      refine go_callV1 (K' := kX6_isPerson) [_] dX6_duel_2 mX6_105 lX6_isPerson rfl (by decide) rfl (by decide) rfl rfl (Nat.le_of_ble_eq_true rfl) (Nat.le_of_ble_eq_true rfl) (c_isPerson_35 hT t5 hP6) ?_
      refine go_if_eq 16 dX6_duel_5 (by decide) (fun h5 => ?_) (fun h => absurd (bI_0.mpr hip) h)
      refine go_iconst (-1) dX6_duel_16 (by decide +kernel) ?_
      exact go_iret dX6_duel_17 rfl rfl rfl
    · show Go O (d + 40) kX7_duel _ _ 0 [.ref 46, .int n, .int p, .null, .null] [] m
      refine go_aload_n dX7_duel_0 rfl ?_
      refine go_iconst (nI 0) dX7_duel_1 (by decide +kernel) ?_
      refine go_puti dX7_duel_2 fX7_77 rfl (by decide) (by decide) (by decide) rfl (fun _ _ _ h => by cases h; rfl) (Or.inl rfl) ?_
      refine go_aload_n dX7_duel_5 rfl ?_
      refine go_iload_n dX7_duel_6 rfl ?_
      refine go_callV1 (K' := kX7_noOne) [_] dX7_duel_7 mX7_150 lX7_noOne rfl (by decide) rfl (by decide) rfl rfl (Nat.le_of_ble_eq_true rfl) (Nat.le_of_ble_eq_true rfl) (c_noOne hP hP6) ?_
      refine go_if_ne 21 dX7_duel_10 (by decide) (fun h10 => ?_) (fun h => absurd h (bI_n0.mpr (by rw [hip]; rfl)))
      refine go_iconst (-1) dX7_duel_21 (by decide +kernel) ?_
      exact go_iret dX7_duel_22 rfl rfl rfl
  | true =>
  cases hin : iR n N with
  | false =>
    refine ⟨(-1), m, gup m 46 0 (nI 0), ?_, ?_, hthr⟩
    · show Go O (d + 40) kX6_duel _ _ 0 [.ref 0, .int n, .int p] [] m
      refine go_aload_n dX6_duel_0 rfl ?_
      refine go_iload_n dX6_duel_1 rfl ?_
      refine go_callV1 (K' := kX6_isPerson) [_] dX6_duel_2 mX6_105 lX6_isPerson rfl (by decide) rfl (by decide) rfl rfl (Nat.le_of_ble_eq_true rfl) (Nat.le_of_ble_eq_true rfl) (c_isPerson_35 hT t5 hP6) ?_
      refine go_if_eq 16 dX6_duel_5 (by decide) (fun h => absurd h (bI_n0.mpr hip)) (fun h5 => ?_)
      refine go_aload_n dX6_duel_8 rfl ?_
      refine go_iload_n dX6_duel_9 rfl ?_
      refine go_callV1 (K' := kX6_isNews) [_] dX6_duel_10 mX6_116 lX6_isNews rfl (by decide) rfl (by decide) rfl rfl (Nat.le_of_ble_eq_true rfl) (Nat.le_of_ble_eq_true rfl) (c_isNews_35 hT t6 (by omega)) ?_
      refine go_if_ne 18 dX6_duel_13 (by decide) (fun h => absurd h (fun q => q (bI_0.mpr hin))) (fun h13 => ?_)
      refine go_iconst (-1) dX6_duel_16 (by decide +kernel) ?_
      exact go_iret dX6_duel_17 rfl rfl rfl
    · show Go O (d + 40) kX7_duel _ _ 0 [.ref 46, .int n, .int p, .null, .null] [] m
      refine go_aload_n dX7_duel_0 rfl ?_
      refine go_iconst (nI 0) dX7_duel_1 (by decide +kernel) ?_
      refine go_puti dX7_duel_2 fX7_77 rfl (by decide) (by decide) (by decide) rfl (fun _ _ _ h => by cases h; rfl) (Or.inl rfl) ?_
      refine go_aload_n dX7_duel_5 rfl ?_
      refine go_iload_n dX7_duel_6 rfl ?_
      refine go_callV1 (K' := kX7_noOne) [_] dX7_duel_7 mX7_150 lX7_noOne rfl (by decide) rfl (by decide) rfl rfl (Nat.le_of_ble_eq_true rfl) (Nat.le_of_ble_eq_true rfl) (c_noOne hP hP6) ?_
      refine go_if_ne 21 dX7_duel_10 (by decide) (fun h => absurd h (fun q => q (bI_0.mpr (by rw [hip]; rfl)))) (fun h10 => ?_)
      refine go_aload_n dX7_duel_13 rfl ?_
      refine go_iload_n dX7_duel_14 rfl ?_
      refine go_callV1 (K' := kX7_noNews) [_] dX7_duel_15 mX7_155 lX7_noNews rfl (by decide) rfl (by decide) rfl rfl (Nat.le_of_ble_eq_true rfl) (Nat.le_of_ble_eq_true rfl) (c_noNews hN (by omega)) ?_
      refine go_if_eq 23 dX7_duel_18 (by decide) (fun h => absurd h (bI_n0.mpr (by rw [hin]; rfl))) (fun h18 => ?_)
      refine go_iconst (-1) dX7_duel_21 (by decide +kernel) ?_
      exact go_iret dX7_duel_22 rfl rfl rfl
  | true =>
    by_cases hl : lw = 0
    · subst hl
      obtain ⟨n, hnN, rfl⟩ := iR_of hin
      obtain ⟨p, hpP, rfl⟩ := iR_of hip
      obtain ⟨k, hk, ek⟩ := ok2 n (by omega)
      obtain ⟨b, hb, eb⟩ := ok4 n (by omega) hnN
      obtain ⟨l9, el⟩ := hlim n hnN
      obtain ⟨m1, c1, g, e0, e1⟩ := c_duelX_35 (O := O) (d := d + 24) (m := m) (G := grp (m.1 48) P) (hr := hr) (k0 := k) (n := n) (p := p) (a := lim n) (b := b) hT t5 hP6 hpP t6 hN3 hnN t7 (fun h a => grp_64 _ h a hP6) ok1 hk tg s4 ((sk n (by omega)).trans ek) ((tn n hnN).1.trans el) (by rw [spl n 0 (by omega) (by omega), spl n 1 (by omega) (by omega), spl n 2 (by omega) (by omega), ok3 n (by omega)]; exact eb) hb l9
      rw [won_eq (by omega) (fun h a => grp_64 _ h a hP6) _ _ _ hk (by omega)] at c1
      have g46 := g 46 (by decide) (by decide)
      have g48 := g 48 (by decide) (by decide)
      have g49 := g 49 (by decide) (by decide)
      have g52 := g 52 (by decide) (by decide)
      obtain ⟨x, y, c2⟩ := c_duelM (O := O) (d := d + 36) (m := m1) (P := P) (hr := hr) (k0 := k) (n := n) (p := p) (a := lim n) (b := b) (N := N) (G := grp (m.1 48) P) ((congrFun g46 4).trans hP) hP6 hpP ((congrFun g46 5).trans hN) hN3 hnN ((congrFun g46 6).trans hlw) ((congrFun g46 11).trans h11) ok1 hk ((congrFun g52 _).trans ek) ((congrFun g49 _).trans el) ((congrFun g52 _).trans eb) hb l9 (by rw [g48])
      exact ⟨_, _, _, c1, c2, mm_fr hin0 hT (by omega) (fun k hk => g k (by omega) (by omega)) e0 e1 (by omega) (by omega)⟩
    · refine ⟨(-3), m, gup m 46 0 (nI 0), ?_, ?_, hthr⟩
      · show Go O (d + 40) kX6_duel _ _ 0 [.ref 0, .int n, .int p] [] m
        refine go_aload_n dX6_duel_0 rfl ?_
        refine go_iload_n dX6_duel_1 rfl ?_
        refine go_callV1 (K' := kX6_isPerson) [_] dX6_duel_2 mX6_105 lX6_isPerson rfl (by decide) rfl (by decide) rfl rfl (Nat.le_of_ble_eq_true rfl) (Nat.le_of_ble_eq_true rfl) (c_isPerson_35 hT t5 hP6) ?_
        refine go_if_eq 16 dX6_duel_5 (by decide) (fun h => absurd h (bI_n0.mpr hip)) (fun h5 => ?_)
        refine go_aload_n dX6_duel_8 rfl ?_
        refine go_iload_n dX6_duel_9 rfl ?_
        refine go_callV1 (K' := kX6_isNews) [_] dX6_duel_10 mX6_116 lX6_isNews rfl (by decide) rfl (by decide) rfl rfl (Nat.le_of_ble_eq_true rfl) (Nat.le_of_ble_eq_true rfl) (c_isNews_35 hT t6 (by omega)) ?_
        refine go_if_ne 18 dX6_duel_13 (by decide) (fun h13 => ?_) (fun h => absurd h (bI_n0.mpr hin))
        refine go_aload_n dX6_duel_18 rfl ?_
        refine go_getm dX6_duel_19 fX6_47 rfl (by decide) (by decide) (by decide) rfl hT ?_
        refine go_geti dX6_duel_22 fX6_91 rfl (by decide) (by decide) (by decide) rfl t7 ?_
        refine go_if_eq 31 dX6_duel_25 (by decide) (fun h => absurd h (fun q => hl ((nI_eq (b := 0) (by omega) (by omega)).mp q))) (fun h25 => ?_)
        refine go_bipush (-3) dX6_duel_28 (by decide +kernel) ?_
        exact go_iret dX6_duel_30 rfl rfl rfl
      · show Go O (d + 40) kX7_duel _ _ 0 [.ref 46, .int n, .int p, .null, .null] [] m
        refine go_aload_n dX7_duel_0 rfl ?_
        refine go_iconst (nI 0) dX7_duel_1 (by decide +kernel) ?_
        refine go_puti dX7_duel_2 fX7_77 rfl (by decide) (by decide) (by decide) rfl (fun _ _ _ h => by cases h; rfl) (Or.inl rfl) ?_
        refine go_aload_n dX7_duel_5 rfl ?_
        refine go_iload_n dX7_duel_6 rfl ?_
        refine go_callV1 (K' := kX7_noOne) [_] dX7_duel_7 mX7_150 lX7_noOne rfl (by decide) rfl (by decide) rfl rfl (Nat.le_of_ble_eq_true rfl) (Nat.le_of_ble_eq_true rfl) (c_noOne hP hP6) ?_
        refine go_if_ne 21 dX7_duel_10 (by decide) (fun h => absurd h (fun q => q (bI_0.mpr (by rw [hip]; rfl)))) (fun h10 => ?_)
        refine go_aload_n dX7_duel_13 rfl ?_
        refine go_iload_n dX7_duel_14 rfl ?_
        refine go_callV1 (K' := kX7_noNews) [_] dX7_duel_15 mX7_155 lX7_noNews rfl (by decide) rfl (by decide) rfl rfl (Nat.le_of_ble_eq_true rfl) (Nat.le_of_ble_eq_true rfl) (c_noNews hN (by omega)) ?_
        refine go_if_eq 23 dX7_duel_18 (by decide) (fun h18 => ?_) (fun h => absurd (bI_0.mpr (by rw [hin]; rfl)) h)
        refine go_aload_n dX7_duel_23 rfl ?_
        refine go_geti dX7_duel_24 fX7_130 rfl (by decide) (by decide) (by decide) rfl hlw ?_
        refine go_if_eq 33 dX7_duel_27 (by decide) (fun h => absurd h (fun q => hl ((nI_eq (b := 0) (by omega) (by omega)).mp q))) (fun h27 => ?_)
        refine go_bipush (-3) dX7_duel_30 (by decide +kernel) ?_
        exact go_iret dX7_duel_32 rfl rfl rfl
theorem op_duel {O : gOm} {d : Nat} {m : gMem} {n p : Int32} (h0 : Inv m) : OpOk O (d + 40) kX6_duel kX7_duel [.int n, .int p] m := by
  have hh := h0
  obtain ⟨P, N, lw, hr, a, c, L, lim, h1, h2, h3, h4, h5, h6, h7, h8⟩ := hh
  rcases h1 with ⟨e, -⟩ | ⟨e, -⟩
  · exact op_duel_29 h0 e
  · exact op_duel_35 h0 e
