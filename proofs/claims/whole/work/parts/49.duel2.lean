/-- what the outlook remembers of duels is right -/
def WnM (G : Nat → Nat → Nat) (w : Nat) (f : Nat → Int32) : Prop := ∀ h k, h < 6 → k < 64 → f (h * 64 + k) = -1 ∨ f (h * 64 + k) = nI (won G w (6 - h) k)
theorem WnM.set {G : Nat → Nat → Nat} {w : Nat} {f : Nat → Int32} (hf : WnM G w f) {h k : Nat} (hh : h < 6) (hk : k < 64) : WnM G w (upd f (h * 64 + k) (nI (won G w (6 - h) k))) := by
  intro h' k' hh' hk'
  by_cases e : h' * 64 + k' = h * 64 + k
  · have e1 : h' = h := by omega
    have e2 : k' = k := by omega
    rw [e1, e2, upd_s]
    exact Or.inr rfl
  · rw [upd_n _ _ e]
    exact hf h' k' hh' hk'
theorem or_lt8 {a b : Nat} (ha : a < 8) (hb : b < 8) : a ||| b < 8 := Nat.or_lt_two_pow (n := 3) ha hb
theorem won_k {G : Nat → Nat → Nat} {w r k : Nat} (h : ¬ w &&& k = 0) : won G w r k = 1023 := by
  cases r with
  | zero => rw [won, if_neg h]
  | succ r => rw [won, if_neg h]
theorem wn_bit (W l : Nat) : nI (W / 2 ^ l) &&& nI 1 = bI (W.testBit l) := by
  rw [nb_and, Nat.and_one_is_mod, nb_tb]
  cases W.testBit l <;> rfl
def WnOk_29 (O : gOm) (d : Nat) (G : Nat → Nat → Nat) (w r : Nat) : Prop := ∀ (m : gMem) (h k : Nat), h + r = 6 → k < 64 → OkD m 29 G w → WnM G w (m.1 42) → ∃ m', Ca O d kX2_wonBy [.ref 41, .int (nI h), .int (nI k)] (some (.int (nI (won G w r k)))) m m' ∧ Fr [42] m m' ∧ WnM G w (m'.1 42)
theorem c_wonByChoice_29 {O : gOm} {d : Nat} {m : gMem} {G : Nat → Nat → Nat} {w r h k c : Nat} (hN : WnOk_29 O (d + 2) G w r) (hg : ∀ h a, G h a < 64) (hr : h + (r + 1) = 6) (hk : k < 64) (hc8 : c < 8) (hD : OkD m 29 G w) (hM : WnM G w (m.1 42)) : ∃ m', Ca O (d + 3) kX2_wonByChoice [.ref 41, .int (nI h), .int (nI k), .int (nI c)] (some (.int (nI (wcN (G h) (won G w r) k c)))) m m' ∧ Fr [42] m m' ∧ WnM G w (m'.1 42) := by
  have cb : ∀ (m1 : gMem) (S : Nat), OkD m1 29 G w → S < 8 → Ca O (d + 2) kX2_behind [.ref 41, .int (nI h), .int (nI S), .int (nI k)] (some (.int (oI (-1) (bh (G h) S k)))) m1 m1 := fun m1 S hD1 hS => c_obh_29 (O := O) (d := d) (k := k) (gr := G h) (S := S) (h := h) hD1.1 (fun a ha => hD1.2.2 h a (by omega) ha) (hg h) (by omega) hS hk
  have cb0 := cb m c hD hc8
  cases hb0 : bh (G h) c k with
  | none =>
    rw [hb0] at cb0
    refine ⟨m, ?_, Fr.rf _ _, hM⟩
    show Go O (d + 3) kX2_wonByChoice _ m 0 [.ref 41, .int (nI h), .int (nI k), .int (nI c), .null, .null, .null, .null, .null, .null, .null] [] m
    refine go_aload_n dX2_wonByChoice_0 rfl ?_
    refine go_iload_n dX2_wonByChoice_1 rfl ?_
    refine go_iload_n dX2_wonByChoice_2 rfl ?_
    refine go_iload_n dX2_wonByChoice_3 rfl ?_
    refine go_callV1 (K' := kX2_behind) [_, _, _] dX2_wonByChoice_4 mX2_38 lX2_behind rfl (by decide) rfl (by decide) rfl rfl (Nat.le_of_ble_eq_true rfl) (Nat.le_of_ble_eq_true rfl) (cb0) ?_
    refine go_if_ge 12 dX2_wonByChoice_7 (by decide) (fun h => absurd h (by decide +kernel)) (fun h7 => ?_)
    refine go_iconst (nI 0) dX2_wonByChoice_10 (by decide +kernel) ?_
    exact go_iret dX2_wonByChoice_11 rfl (by simp only [wcN, hb0]) rfl
  | some s0 =>
    rw [hb0] at cb0
    have hs0 := bh_lt hk (hg h) hb0
    obtain ⟨i0, hi0⟩ : ∃ i0, (if c = 0 then 1023 else 1022) = i0 := ⟨_, rfl⟩
    have hi0l : i0 ≤ 1023 := by rw [← hi0]; split <;> omega
    have er : wcN (G h) (won G w r) k c = awA (G h) (won G w r) k c i0 4 := by simp only [wcN, hb0, hi0]
    rw [er]
    have key : ∀ q j (m1 : gMem), j + q = 4 → OkD m1 29 G w → WnM G w (m1.1 42) → ∃ m', (∀ x y z, Go O (d + 3) kX2_wonByChoice (some (.int (nI (awA (G h) (won G w r) k c i0 4)))) m' 40 [.ref 41, .int (nI h), .int (nI k), .int (nI c), .int (nI (awA (G h) (won G w r) k c i0 j)), .ref 69, .int (nI 4), .int (nI j), x, y, z] [] m1) ∧ Fr [42] m1 m' ∧ WnM G w (m'.1 42) := by
      intro q
      induction q with
      | zero =>
        intro j m1 hj hD1 hM1
        obtain rfl : j = 4 := by omega
        refine ⟨m1, fun x y z => ?_, Fr.rf _ _, hM1⟩
        refine go_iload dX2_wonByChoice_40 rfl ?_
        refine go_iload dX2_wonByChoice_42 rfl ?_
        refine go_icmp_ge 117 dX2_wonByChoice_44 (by decide) (fun h44 => ?_) (fun h => absurd (nI_le (by omega) (by omega)) h)
        refine go_iload dX2_wonByChoice_117 rfl ?_
        exact go_iret dX2_wonByChoice_119 rfl rfl rfl
      | succ q ih =>
        intro j m1 hj hD1 hM1
        have hch := chN_8 j
        have hS8 := or_lt8 hc8 hch
        have hS6 := pc6_le (c ||| chN j)
        have hand : c &&& chN j < 8 := Nat.and_lt_two_pow (n := 3) _ hch
        have haw := awA_le (G h) (won G w r) k c i0 j
        have cb1 := cb m1 (c ||| chN j) hD1 hS8
        cases hb : bh (G h) (c ||| chN j) k with
        | none =>
          rw [hb] at cb1
          obtain ⟨m', g1, f1, v1⟩ := ih (j + 1) m1 (by omega) hD1 hM1
          rw [show awA (G h) (won G w r) k c i0 (j + 1) = awA (G h) (won G w r) k c i0 j by rw [awA, awT, hb]] at g1
          refine ⟨m', fun x y z => ?_, f1, v1⟩
          refine go_iload dX2_wonByChoice_40 rfl ?_
          refine go_iload dX2_wonByChoice_42 rfl ?_
          refine go_icmp_ge 117 dX2_wonByChoice_44 (by decide) (fun h => absurd h (nI_ge (by omega) (by omega))) (fun h44 => ?_)
          refine go_aload dX2_wonByChoice_47 rfl ?_
          refine go_iload dX2_wonByChoice_49 rfl ?_
          refine go_cald dX2_wonByChoice_51 rfl (by omega) ?_
          refine go_top (nI (chN j)) (gch_N j (by omega)) ?_
          refine go_istore (L' := [_, _, _, _, _, _, _, _, _, _, _]) dX2_wonByChoice_52 (by decide) rfl ?_
          refine go_aload_n dX2_wonByChoice_54 rfl ?_
          refine go_iload_n dX2_wonByChoice_55 rfl ?_
          refine go_iload_n dX2_wonByChoice_56 rfl ?_
          refine go_iload dX2_wonByChoice_57 rfl ?_
          refine go_ior dX2_wonByChoice_59 (nb_or _ _) ?_
          refine go_iload_n dX2_wonByChoice_60 rfl ?_
          refine go_callV1 (K' := kX2_behind) [_, _, _] dX2_wonByChoice_61 mX2_38 lX2_behind rfl (by decide) rfl (by decide) rfl rfl (Nat.le_of_ble_eq_true rfl) (Nat.le_of_ble_eq_true rfl) (cb1) ?_
          refine go_istore (L' := [_, _, _, _, _, _, _, _, _, _, _]) dX2_wonByChoice_64 (by decide) rfl ?_
          refine go_iload dX2_wonByChoice_66 rfl ?_
          refine go_if_lt 111 dX2_wonByChoice_68 (by decide) (fun h68 => ?_) (fun h => absurd (by decide +kernel) h)
          refine go_iinc_n (L' := [_, _, _, _, _, _, _, _, _, _, _]) dX2_wonByChoice_111 rfl (by decide) rfl ?_
          refine go_goto 40 dX2_wonByChoice_114 (by decide) ?_
          exact g1 _ _ _
        | some s =>
          rw [hb] at cb1
          have hs := bh_lt hk (hg h) hb
          by_cases hz : c &&& chN j = 0
          · obtain ⟨m2, c2, f2, v2⟩ := hN m1 (h + 1) s (by omega) hs hD1 hM1
            have hw := won_lt G w r s
            have hp2 : 2 ^ pc6 (c ||| chN j) ≤ 2 ^ 6 := Nat.pow_le_pow_right (by omega) hS6
            have hp0 : 0 < 2 ^ pc6 (c ||| chN j) := Nat.two_pow_pos _
            have hmul : won G w r s * 2 ^ pc6 (c ||| chN j) < 2 ^ 32 := Nat.lt_of_le_of_lt (Nat.mul_le_mul (show won G w r s ≤ 1024 by omega) hp2) (by decide)
            obtain ⟨m', g1, f1, v1⟩ := ih (j + 1) m2 (by omega) (hD1.fr f2 (by decide) (by decide)) v2
            rw [show awA (G h) (won G w r) k c i0 (j + 1) = awA (G h) (won G w r) k c i0 j &&& (won G w r s * 2 ^ pc6 (c ||| chN j) ||| (2 ^ pc6 (c ||| chN j) - 1)) by rw [awA, awT, hb]; dsimp only; rw [if_pos hz]] at g1
            refine ⟨m', fun x y z => ?_, f2.trans f1, v1⟩
            refine go_iload dX2_wonByChoice_40 rfl ?_
            refine go_iload dX2_wonByChoice_42 rfl ?_
            refine go_icmp_ge 117 dX2_wonByChoice_44 (by decide) (fun h => absurd h (nI_ge (by omega) (by omega))) (fun h44 => ?_)
            refine go_aload dX2_wonByChoice_47 rfl ?_
            refine go_iload dX2_wonByChoice_49 rfl ?_
            refine go_cald dX2_wonByChoice_51 rfl (by omega) ?_
            refine go_top (nI (chN j)) (gch_N j (by omega)) ?_
            refine go_istore (L' := [_, _, _, _, _, _, _, _, _, _, _]) dX2_wonByChoice_52 (by decide) rfl ?_
            refine go_aload_n dX2_wonByChoice_54 rfl ?_
            refine go_iload_n dX2_wonByChoice_55 rfl ?_
            refine go_iload_n dX2_wonByChoice_56 rfl ?_
            refine go_iload dX2_wonByChoice_57 rfl ?_
            refine go_ior dX2_wonByChoice_59 (nb_or _ _) ?_
            refine go_iload_n dX2_wonByChoice_60 rfl ?_
            refine go_callV1 (K' := kX2_behind) [_, _, _] dX2_wonByChoice_61 mX2_38 lX2_behind rfl (by decide) rfl (by decide) rfl rfl (Nat.le_of_ble_eq_true rfl) (Nat.le_of_ble_eq_true rfl) (cb1) ?_
            refine go_istore (L' := [_, _, _, _, _, _, _, _, _, _, _]) dX2_wonByChoice_64 (by decide) rfl ?_
            refine go_iload dX2_wonByChoice_66 rfl ?_
            refine go_if_lt 111 dX2_wonByChoice_68 (by decide) (fun h => absurd h (nI_pos (by omega))) (fun h68 => ?_)
            refine go_iload_n dX2_wonByChoice_71 rfl ?_
            refine go_iload dX2_wonByChoice_72 rfl ?_
            refine go_iand dX2_wonByChoice_74 (nb_and _ _) ?_
            refine go_if_ne 111 dX2_wonByChoice_75 (by decide) (fun h => absurd h (fun q => q (by rw [hz]; rfl))) (fun h75 => ?_)
            refine go_iload_n dX2_wonByChoice_78 rfl ?_
            refine go_iload dX2_wonByChoice_79 rfl ?_
            refine go_ior dX2_wonByChoice_81 (nb_or _ _) ?_
            refine go_callS1 (K' := kJ6_bitCount_0f7a4) [_] dX2_wonByChoice_82 mX2_60 lJ6_bitCount_0f7a4 rfl rfl (Nat.le_of_ble_eq_true rfl) (Nat.le_of_ble_eq_true rfl) (c_bitCount (by omega)) ?_
            refine go_istore (L' := [_, _, _, _, _, _, _, _, _, _, _]) dX2_wonByChoice_85 (by decide) rfl ?_
            refine go_iload dX2_wonByChoice_87 rfl ?_
            refine go_aload_n dX2_wonByChoice_89 rfl ?_
            refine go_iload_n dX2_wonByChoice_90 rfl ?_
            refine go_iconst (nI 1) dX2_wonByChoice_91 (by decide +kernel) ?_
            first | refine go_iadd_n dX2_wonByChoice_92 ?_ | refine go_iadd dX2_wonByChoice_92 rfl ?_
            refine go_iload dX2_wonByChoice_93 rfl ?_
            refine go_callV1 (K' := kX2_wonBy) [_, _] dX2_wonByChoice_95 mX2_78 lX2_wonBy rfl (by decide) rfl (by decide) rfl rfl (Nat.le_of_ble_eq_true rfl) (Nat.le_of_ble_eq_true rfl) (c2) ?_
            refine go_iload dX2_wonByChoice_98 rfl ?_
            refine go_ishl dX2_wonByChoice_100 (nb_shl (by omega) hmul) ?_
            refine go_iconst (nI 1) dX2_wonByChoice_101 (by decide +kernel) ?_
            refine go_iload dX2_wonByChoice_102 rfl ?_
            refine go_ishl dX2_wonByChoice_104 (nb_one (by omega)) ?_
            refine go_iconst (nI 1) dX2_wonByChoice_105 (by decide +kernel) ?_
            refine go_isub dX2_wonByChoice_106 (pk_sub (by omega)) ?_
            refine go_ior dX2_wonByChoice_107 (nb_or _ _) ?_
            refine go_iand dX2_wonByChoice_108 (nb_and _ _) ?_
            refine go_istore (L' := [_, _, _, _, _, _, _, _, _, _, _]) dX2_wonByChoice_109 (by decide) rfl ?_
            refine go_iinc_n (L' := [_, _, _, _, _, _, _, _, _, _, _]) dX2_wonByChoice_111 rfl (by decide) rfl ?_
            refine go_goto 40 dX2_wonByChoice_114 (by decide) ?_
            exact g1 _ _ _
          · obtain ⟨m', g1, f1, v1⟩ := ih (j + 1) m1 (by omega) hD1 hM1
            rw [show awA (G h) (won G w r) k c i0 (j + 1) = awA (G h) (won G w r) k c i0 j by rw [awA, awT, hb]; dsimp only; rw [if_neg hz]] at g1
            refine ⟨m', fun x y z => ?_, f1, v1⟩
            refine go_iload dX2_wonByChoice_40 rfl ?_
            refine go_iload dX2_wonByChoice_42 rfl ?_
            refine go_icmp_ge 117 dX2_wonByChoice_44 (by decide) (fun h => absurd h (nI_ge (by omega) (by omega))) (fun h44 => ?_)
            refine go_aload dX2_wonByChoice_47 rfl ?_
            refine go_iload dX2_wonByChoice_49 rfl ?_
            refine go_cald dX2_wonByChoice_51 rfl (by omega) ?_
            refine go_top (nI (chN j)) (gch_N j (by omega)) ?_
            refine go_istore (L' := [_, _, _, _, _, _, _, _, _, _, _]) dX2_wonByChoice_52 (by decide) rfl ?_
            refine go_aload_n dX2_wonByChoice_54 rfl ?_
            refine go_iload_n dX2_wonByChoice_55 rfl ?_
            refine go_iload_n dX2_wonByChoice_56 rfl ?_
            refine go_iload dX2_wonByChoice_57 rfl ?_
            refine go_ior dX2_wonByChoice_59 (nb_or _ _) ?_
            refine go_iload_n dX2_wonByChoice_60 rfl ?_
            refine go_callV1 (K' := kX2_behind) [_, _, _] dX2_wonByChoice_61 mX2_38 lX2_behind rfl (by decide) rfl (by decide) rfl rfl (Nat.le_of_ble_eq_true rfl) (Nat.le_of_ble_eq_true rfl) (cb1) ?_
            refine go_istore (L' := [_, _, _, _, _, _, _, _, _, _, _]) dX2_wonByChoice_64 (by decide) rfl ?_
            refine go_iload dX2_wonByChoice_66 rfl ?_
            refine go_if_lt 111 dX2_wonByChoice_68 (by decide) (fun h => absurd h (nI_pos (by omega))) (fun h68 => ?_)
            refine go_iload_n dX2_wonByChoice_71 rfl ?_
            refine go_iload dX2_wonByChoice_72 rfl ?_
            refine go_iand dX2_wonByChoice_74 (nb_and _ _) ?_
            refine go_if_ne 111 dX2_wonByChoice_75 (by decide) (fun h75 => ?_) (fun h => absurd h (fun q => hz ((nI_eq (b := 0) (by omega) (by omega)).mp q)))
            refine go_iinc_n (L' := [_, _, _, _, _, _, _, _, _, _, _]) dX2_wonByChoice_111 rfl (by decide) rfl ?_
            refine go_goto 40 dX2_wonByChoice_114 (by decide) ?_
            exact g1 _ _ _
    obtain ⟨m', g1, f1, v1⟩ := key 4 0 m (by omega) hD hM
    rw [awA] at g1
    refine ⟨m', ?_, f1, v1⟩
    show Go O (d + 3) kX2_wonByChoice _ m' 0 [.ref 41, .int (nI h), .int (nI k), .int (nI c), .null, .null, .null, .null, .null, .null, .null] [] m
    by_cases hc0 : c = 0
    · rw [if_pos hc0] at hi0
      rw [← hi0] at g1 ⊢
      refine go_aload_n dX2_wonByChoice_0 rfl ?_
      refine go_iload_n dX2_wonByChoice_1 rfl ?_
      refine go_iload_n dX2_wonByChoice_2 rfl ?_
      refine go_iload_n dX2_wonByChoice_3 rfl ?_
      refine go_callV1 (K' := kX2_behind) [_, _, _] dX2_wonByChoice_4 mX2_38 lX2_behind rfl (by decide) rfl (by decide) rfl rfl (Nat.le_of_ble_eq_true rfl) (Nat.le_of_ble_eq_true rfl) (cb0) ?_
      refine go_if_ge 12 dX2_wonByChoice_7 (by decide) (fun h7 => ?_) (fun h => absurd (nI_pos' (by omega)) h)
      refine go_iload_n dX2_wonByChoice_12 rfl ?_
      refine go_if_ne 22 dX2_wonByChoice_13 (by decide) (fun h => absurd h (fun q => q (by rw [hc0]; rfl))) (fun h13 => ?_)
      refine go_sipush (nI 1023) dX2_wonByChoice_16 (by decide +kernel) ?_
      refine go_goto 25 dX2_wonByChoice_19 (by decide) ?_
      refine go_istore (L' := [_, _, _, _, _, _, _, _, _, _, _]) dX2_wonByChoice_25 (by decide) rfl ?_
      refine go_gets dX2_wonByChoice_27 fX2_72 ?_
      refine go_astore (L' := [_, _, _, _, _, _, _, _, _, _, _]) dX2_wonByChoice_30 (by decide) rfl ?_
      refine go_aload dX2_wonByChoice_32 rfl ?_
      refine go_clen dX2_wonByChoice_34 ?_
      refine go_istore (L' := [_, _, _, _, _, _, _, _, _, _, _]) dX2_wonByChoice_35 (by decide) rfl ?_
      refine go_iconst (nI 0) dX2_wonByChoice_37 (by decide +kernel) ?_
      refine go_istore (L' := [_, _, _, _, _, _, _, _, _, _, _]) dX2_wonByChoice_38 (by decide) rfl ?_
      exact g1 _ _ _
    · rw [if_neg hc0] at hi0
      rw [← hi0] at g1 ⊢
      refine go_aload_n dX2_wonByChoice_0 rfl ?_
      refine go_iload_n dX2_wonByChoice_1 rfl ?_
      refine go_iload_n dX2_wonByChoice_2 rfl ?_
      refine go_iload_n dX2_wonByChoice_3 rfl ?_
      refine go_callV1 (K' := kX2_behind) [_, _, _] dX2_wonByChoice_4 mX2_38 lX2_behind rfl (by decide) rfl (by decide) rfl rfl (Nat.le_of_ble_eq_true rfl) (Nat.le_of_ble_eq_true rfl) (cb0) ?_
      refine go_if_ge 12 dX2_wonByChoice_7 (by decide) (fun h7 => ?_) (fun h => absurd (nI_pos' (by omega)) h)
      refine go_iload_n dX2_wonByChoice_12 rfl ?_
      refine go_if_ne 22 dX2_wonByChoice_13 (by decide) (fun h13 => ?_) (fun h => absurd h (fun q => hc0 ((nI_eq (b := 0) (by omega) (by omega)).mp q)))
      refine go_sipush (nI 1022) dX2_wonByChoice_22 (by decide +kernel) ?_
      refine go_istore (L' := [_, _, _, _, _, _, _, _, _, _, _]) dX2_wonByChoice_25 (by decide) rfl ?_
      refine go_gets dX2_wonByChoice_27 fX2_72 ?_
      refine go_astore (L' := [_, _, _, _, _, _, _, _, _, _, _]) dX2_wonByChoice_30 (by decide) rfl ?_
      refine go_aload dX2_wonByChoice_32 rfl ?_
      refine go_clen dX2_wonByChoice_34 ?_
      refine go_istore (L' := [_, _, _, _, _, _, _, _, _, _, _]) dX2_wonByChoice_35 (by decide) rfl ?_
      refine go_iconst (nI 0) dX2_wonByChoice_37 (by decide +kernel) ?_
      refine go_istore (L' := [_, _, _, _, _, _, _, _, _, _, _]) dX2_wonByChoice_38 (by decide) rfl ?_
      exact g1 _ _ _
theorem c_wonK_29 {O : gOm} {d : Nat} {m : gMem} {G : Nat → Nat → Nat} {w r h k : Nat} (hw : w < 64) (hk : k < 64) (hD : OkD m 29 G w) (hz : ¬ w &&& k = 0) : Ca O d kX2_wonBy [.ref 41, .int (nI h), .int (nI k)] (some (.int (nI (won G w r k)))) m m := by
  rw [won_k hz]
  have hand : w &&& k < 64 := Nat.and_lt_two_pow (n := 6) _ hk
  show Go O d kX2_wonBy _ m 0 [.ref 41, .int (nI h), .int (nI k), .null, .null, .null, .null, .null, .null] [] m
  refine go_aload_n dX2_wonBy_0 rfl ?_
  refine go_geti dX2_wonBy_1 fX2_42 rfl (by decide) (by decide) (by decide) rfl hD.2.1 ?_
  refine go_iload_n dX2_wonBy_4 rfl ?_
  refine go_iand dX2_wonBy_5 (nb_and _ _) ?_
  refine go_if_eq 13 dX2_wonBy_6 (by decide) (fun h => absurd h (fun q => hz ((nI_eq (b := 0) (by omega) (by omega)).mp q))) (fun h6 => ?_)
  refine go_sipush (nI 1023) dX2_wonBy_9 (by decide +kernel) ?_
  exact go_iret dX2_wonBy_12 rfl rfl rfl
theorem c_wonBy_29 {O : gOm} {d : Nat} {G : Nat → Nat → Nat} {w : Nat} (hw : w < 64) (hg : ∀ h a, G h a < 64) : ∀ r, WnOk_29 O (d + 2 * r + 2) G w r := by
  intro r
  induction r with
  | zero =>
    intro m h k hr hk hD hM
    refine ⟨m, ?_, Fr.rf _ _, hM⟩
    by_cases hz : w &&& k = 0
    · show Go O _ kX2_wonBy _ m 0 [.ref 41, .int (nI h), .int (nI k), .null, .null, .null, .null, .null, .null] [] m
      refine go_aload_n dX2_wonBy_0 rfl ?_
      refine go_geti dX2_wonBy_1 fX2_42 rfl (by decide) (by decide) (by decide) rfl hD.2.1 ?_
      refine go_iload_n dX2_wonBy_4 rfl ?_
      refine go_iand dX2_wonBy_5 (nb_and _ _) ?_
      refine go_if_eq 13 dX2_wonBy_6 (by decide) (fun h6 => ?_) (fun h => absurd (by rw [hz]; rfl) h)
      refine go_iload_n dX2_wonBy_13 rfl ?_
      refine go_bipush (nI 6) dX2_wonBy_14 (by decide +kernel) ?_
      refine go_icmp_lt 21 dX2_wonBy_16 (by decide) (fun h => absurd h (nI_nlt (by omega) (by omega))) (fun h16 => ?_)
      refine go_iconst (nI 0) dX2_wonBy_19 (by decide +kernel) ?_
      exact go_iret dX2_wonBy_20 rfl (by rw [won, if_pos hz]) rfl
    · exact c_wonK_29 hw hk hD hz
  | succ r ih =>
    intro m h k hr hk hD hM
    by_cases hz : w &&& k = 0
    · have e6 : 6 - h = r + 1 := by omega
      have e5 : 5 - r = h := by omega
      have ew : won G w (r + 1) k = orA (fun j => wcN (G h) (won G w r) k (chN j)) 4 := by rw [won, if_pos hz, e5]
      rcases hM h k (by omega) hk with e | e
      · have key : ∀ q j (m1 : gMem), j + q = 4 → OkD m1 29 G w → WnM G w (m1.1 42) → ∃ m', (∀ x, Go O (d + 2 * r + 4) kX2_wonBy (some (.int (nI (won G w (r + 1) k)))) m' 54 [.ref 41, .int (nI h), .int (nI k), .int (nI (h * 64 + k)), .int (nI (orA (fun j => wcN (G h) (won G w r) k (chN j)) j)), .ref 69, .int (nI 4), .int (nI j), x] [] m1) ∧ Fr [42] m1 m' ∧ WnM G w (m'.1 42) := by
          intro q
          induction q with
          | zero =>
            intro j m1 hj hD1 hM1
            obtain rfl : j = 4 := by omega
            have es := hM1.set (h := h) (k := k) (by omega) hk
            rw [e6] at es
            refine ⟨gup m1 42 (h * 64 + k) (nI (won G w (r + 1) k)), fun x => ?_, (Fr.rf _ _).up (by decide) _ _, by rw [gupd]; exact es⟩
            rw [← ew]
            refine go_iload dX2_wonBy_54 rfl ?_
            refine go_iload dX2_wonBy_56 rfl ?_
            refine go_icmp_ge 87 dX2_wonBy_58 (by decide) (fun h58 => ?_) (fun h => absurd (nI_le (by omega) (by omega)) h)
            refine go_aload_n dX2_wonBy_87 rfl ?_
            refine go_getc dX2_wonBy_88 fX2_9 rfl (by decide) (by decide) (by decide) rfl ?_
            refine go_iload_n dX2_wonBy_91 rfl ?_
            refine go_iload dX2_wonBy_92 rfl ?_
            refine go_iast dX2_wonBy_94 rfl (by decide) rfl (by omega) (by decide) ?_
            refine go_aload_n dX2_wonBy_95 rfl ?_
            refine go_getc dX2_wonBy_96 fX2_9 rfl (by decide) (by decide) (by decide) rfl ?_
            refine go_iload_n dX2_wonBy_99 rfl ?_
            refine go_iald dX2_wonBy_100 rfl (by decide) rfl (by omega) (by decide) (gup_s _ 42 _ _) ?_
            exact go_iret dX2_wonBy_101 rfl rfl rfl
          | succ q ihq =>
            intro j m1 hj hD1 hM1
            obtain ⟨m2, c2, f2, v2⟩ := c_wonByChoice_29 (d := d + 2 * r) (c := chN j) (k := k) (h := h) ih hg hr hk (chN_8 j) hD1 hM1
            obtain ⟨m', g1, f1, v1⟩ := ihq (j + 1) m2 (by omega) (hD1.fr f2 (by decide) (by decide)) v2
            refine ⟨m', fun x => ?_, f2.trans f1, v1⟩
            refine go_iload dX2_wonBy_54 rfl ?_
            refine go_iload dX2_wonBy_56 rfl ?_
            refine go_icmp_ge 87 dX2_wonBy_58 (by decide) (fun h => absurd h (nI_ge (by omega) (by omega))) (fun h58 => ?_)
            refine go_aload dX2_wonBy_61 rfl ?_
            refine go_iload dX2_wonBy_63 rfl ?_
            refine go_cald dX2_wonBy_65 rfl (by omega) ?_
            refine go_top (nI (chN j)) (gch_N j (by omega)) ?_
            refine go_istore (L' := [_, _, _, _, _, _, _, _, _]) dX2_wonBy_66 (by decide) rfl ?_
            refine go_iload dX2_wonBy_68 rfl ?_
            refine go_aload_n dX2_wonBy_70 rfl ?_
            refine go_iload_n dX2_wonBy_71 rfl ?_
            refine go_iload_n dX2_wonBy_72 rfl ?_
            refine go_iload dX2_wonBy_73 rfl ?_
            refine go_callV1 (K' := kX2_wonByChoice) [_, _, _] dX2_wonBy_75 mX2_75 lX2_wonByChoice rfl (by decide) rfl (by decide) rfl rfl (Nat.le_of_ble_eq_true rfl) (Nat.le_of_ble_eq_true rfl) (c2) ?_
            refine go_ior dX2_wonBy_78 (nb_or _ _) ?_
            refine go_istore (L' := [_, _, _, _, _, _, _, _, _]) dX2_wonBy_79 (by decide) rfl ?_
            refine go_iinc_n (L' := [_, _, _, _, _, _, _, _, _]) dX2_wonBy_81 rfl (by decide) rfl ?_
            refine go_goto 54 dX2_wonBy_84 (by decide) ?_
            exact g1 _
        obtain ⟨m', g1, f1, v1⟩ := key 4 0 m (by omega) hD hM
        refine ⟨m', ?_, f1, v1⟩
        show Go O (d + 2 * r + 4) kX2_wonBy _ m' 0 [.ref 41, .int (nI h), .int (nI k), .null, .null, .null, .null, .null, .null] [] m
        refine go_aload_n dX2_wonBy_0 rfl ?_
        refine go_geti dX2_wonBy_1 fX2_42 rfl (by decide) (by decide) (by decide) rfl hD.2.1 ?_
        refine go_iload_n dX2_wonBy_4 rfl ?_
        refine go_iand dX2_wonBy_5 (nb_and _ _) ?_
        refine go_if_eq 13 dX2_wonBy_6 (by decide) (fun h6 => ?_) (fun h => absurd (by rw [hz]; rfl) h)
        refine go_iload_n dX2_wonBy_13 rfl ?_
        refine go_bipush (nI 6) dX2_wonBy_14 (by decide +kernel) ?_
        refine go_icmp_lt 21 dX2_wonBy_16 (by decide) (fun h16 => ?_) (fun h => absurd (nI_lt (by omega) (by omega)) h)
        refine go_iload_n dX2_wonBy_21 rfl ?_
        refine go_bipush (nI 64) dX2_wonBy_22 (by decide +kernel) ?_
        first | refine go_imul_n dX2_wonBy_24 ?_ | refine go_imul dX2_wonBy_24 rfl ?_
        refine go_iload_n dX2_wonBy_25 rfl ?_
        first | refine go_iadd_n dX2_wonBy_26 ?_ | refine go_iadd dX2_wonBy_26 rfl ?_
        refine go_istore_n (L' := [_, _, _, _, _, _, _, _, _]) dX2_wonBy_27 (by decide) rfl ?_
        refine go_aload_n dX2_wonBy_28 rfl ?_
        refine go_getc dX2_wonBy_29 fX2_9 rfl (by decide) (by decide) (by decide) rfl ?_
        refine go_iload_n dX2_wonBy_32 rfl ?_
        refine go_iald dX2_wonBy_33 rfl (by decide) rfl (by omega) (by decide) e ?_
        refine go_iconst (-1) dX2_wonBy_34 (by decide +kernel) ?_
        refine go_icmp_ne 95 dX2_wonBy_35 (by decide) (fun h => absurd h (fun q => q rfl)) (fun h35 => ?_)
        refine go_iconst (nI 0) dX2_wonBy_38 (by decide +kernel) ?_
        refine go_istore (L' := [_, _, _, _, _, _, _, _, _]) dX2_wonBy_39 (by decide) rfl ?_
        refine go_gets dX2_wonBy_41 fX2_72 ?_
        refine go_astore (L' := [_, _, _, _, _, _, _, _, _]) dX2_wonBy_44 (by decide) rfl ?_
        refine go_aload dX2_wonBy_46 rfl ?_
        refine go_clen dX2_wonBy_48 ?_
        refine go_istore (L' := [_, _, _, _, _, _, _, _, _]) dX2_wonBy_49 (by decide) rfl ?_
        refine go_iconst (nI 0) dX2_wonBy_51 (by decide +kernel) ?_
        refine go_istore (L' := [_, _, _, _, _, _, _, _, _]) dX2_wonBy_52 (by decide) rfl ?_
        exact g1 _
      · have hc := won_lt G w (6 - h) k
        refine ⟨m, ?_, Fr.rf _ _, hM⟩
        show Go O (d + 2 * r + 4) kX2_wonBy _ m 0 [.ref 41, .int (nI h), .int (nI k), .null, .null, .null, .null, .null, .null] [] m
        refine go_aload_n dX2_wonBy_0 rfl ?_
        refine go_geti dX2_wonBy_1 fX2_42 rfl (by decide) (by decide) (by decide) rfl hD.2.1 ?_
        refine go_iload_n dX2_wonBy_4 rfl ?_
        refine go_iand dX2_wonBy_5 (nb_and _ _) ?_
        refine go_if_eq 13 dX2_wonBy_6 (by decide) (fun h6 => ?_) (fun h => absurd (by rw [hz]; rfl) h)
        refine go_iload_n dX2_wonBy_13 rfl ?_
        refine go_bipush (nI 6) dX2_wonBy_14 (by decide +kernel) ?_
        refine go_icmp_lt 21 dX2_wonBy_16 (by decide) (fun h16 => ?_) (fun h => absurd (nI_lt (by omega) (by omega)) h)
        refine go_iload_n dX2_wonBy_21 rfl ?_
        refine go_bipush (nI 64) dX2_wonBy_22 (by decide +kernel) ?_
        first | refine go_imul_n dX2_wonBy_24 ?_ | refine go_imul dX2_wonBy_24 rfl ?_
        refine go_iload_n dX2_wonBy_25 rfl ?_
        first | refine go_iadd_n dX2_wonBy_26 ?_ | refine go_iadd dX2_wonBy_26 rfl ?_
        refine go_istore_n (L' := [_, _, _, _, _, _, _, _, _]) dX2_wonBy_27 (by decide) rfl ?_
        refine go_aload_n dX2_wonBy_28 rfl ?_
        refine go_getc dX2_wonBy_29 fX2_9 rfl (by decide) (by decide) (by decide) rfl ?_
        refine go_iload_n dX2_wonBy_32 rfl ?_
        refine go_iald dX2_wonBy_33 rfl (by decide) rfl (by omega) (by decide) e ?_
        refine go_iconst (-1) dX2_wonBy_34 (by decide +kernel) ?_
        refine go_icmp_ne 95 dX2_wonBy_35 (by decide) (fun h35 => ?_) (fun h => absurd h (nI_n1 (by omega)))
        refine go_aload_n dX2_wonBy_95 rfl ?_
        refine go_getc dX2_wonBy_96 fX2_9 rfl (by decide) (by decide) (by decide) rfl ?_
        refine go_iload_n dX2_wonBy_99 rfl ?_
        refine go_iald dX2_wonBy_100 rfl (by decide) rfl (by omega) (by decide) e ?_
        exact go_iret dX2_wonBy_101 rfl (by rw [e6]) rfl
    · exact ⟨m, c_wonK_29 hw hk hD hz, Fr.rf _ _, hM⟩
theorem c_duelX_29 {O : gOm} {d : Nat} {m : gMem} {G : Nat → Nat → Nat} {hr k0 n p a b N P : Nat} (hT : m.2 0 = 29) (t5 : m.1 29 5 = nI P) (hP6 : P ≤ 6) (hpP : p < P) (t6 : m.1 29 6 = nI N) (hN3 : N ≤ 3) (hnN : n < N) (t7 : m.1 29 7 = nI 0) (hg : ∀ h a, G h a < 64) (hr6 : hr < 6) (hk : k0 < 64) (hG : ∀ h a, h < 6 → a < 3 → m.1 31 (h * 3 + a) = nI (G h a)) (s4 : m.1 3 4 = nI hr) (sk : m.1 4 n = nI k0) (ha : m.1 32 n = nI a) (hb : nI 0 + m.1 7 (n * 3 + 0) + m.1 7 (n * 3 + 1) + m.1 7 (n * 3 + 2) = nI b) (hab : b ≤ a) (ha9 : a ≤ 9) : ∃ m1, Ca O (d + 16) kX6_duel [.ref 0, .int (nI n), .int (nI p)] (some (.int (bI ((won G (2 ^ p) (6 - hr) k0).testBit (a - b))))) m m1 ∧ (∀ k, k ≠ 41 → k ≠ 42 → m1.1 k = m.1 k) ∧ m1.2 0 = m.2 0 ∧ m1.2 1 = m.2 1 := by
  have e2 : 2 ^ p ≤ 32 := Nat.pow_le_pow_right (n := 2) (by omega) (show p ≤ 5 by omega)
  have o1 : OkD (wtM_29 m (nI (2 ^ p))) 29 G (2 ^ p) := (wtM_ok_29 (w := 2 ^ p) hG).1
  have o2 : WnM G (2 ^ p) ((wtM_29 m (nI (2 ^ p))).1 42) := by
    intro h k hh hk
    refine Or.inl ?_
    show flP (m.1 42) (-1) 384 (h * 64 + k) = -1
    rw [flP_at, if_pos (by omega)]
  obtain ⟨m', c1, f1, v1⟩ := c_wonBy_29 (O := O) (d := d + (13 - 2 * (6 - hr))) (w := 2 ^ p) (by omega) hg (6 - hr) (wtM_29 m (nI (2 ^ p))) hr k0 (by omega) hk o1 o2
  rw [show d + (13 - 2 * (6 - hr)) + 2 * (6 - hr) + 2 = d + 15 by omega] at c1
  have hwl := won_lt G (2 ^ p) (6 - hr) k0
  have e7 : m'.1 7 = m.1 7 := (f1.2 7 (by decide)).trans rfl
  refine ⟨m', ?_, fun k z1 z2 => (f1.2 k (by simp [z2])).trans (by unfold wtM_29; rw [gupA_k _ _ z2, gup_k _ _ z1]; rfl), (congrFun f1.1 0).trans rfl, (congrFun f1.1 1).trans rfl⟩
  show Go O (d + 16) kX6_duel _ m' 0 [.ref 0, .int (nI n), .int (nI p)] [] m
  refine go_aload_n dX6_duel_0 rfl ?_
  refine go_iload_n dX6_duel_1 rfl ?_
  refine go_callV1 (K' := kX6_isPerson) [_] dX6_duel_2 mX6_105 lX6_isPerson rfl (by decide) rfl (by decide) rfl rfl (Nat.le_of_ble_eq_true rfl) (Nat.le_of_ble_eq_true rfl) (c_isPerson_29 hT t5 hP6) ?_
  refine go_if_eq 16 dX6_duel_5 (by decide) (fun h => absurd h (bI_n0.mpr (iR_nI hpP (by omega)))) (fun h5 => ?_)
  refine go_aload_n dX6_duel_8 rfl ?_
  refine go_iload_n dX6_duel_9 rfl ?_
  refine go_callV1 (K' := kX6_isNews) [_] dX6_duel_10 mX6_116 lX6_isNews rfl (by decide) rfl (by decide) rfl rfl (Nat.le_of_ble_eq_true rfl) (Nat.le_of_ble_eq_true rfl) (c_isNews_29 hT t6 (by omega)) ?_
  refine go_if_ne 18 dX6_duel_13 (by decide) (fun h13 => ?_) (fun h => absurd h (bI_n0.mpr (iR_nI hnN (by omega))))
  refine go_aload_n dX6_duel_18 rfl ?_
  refine go_getm dX6_duel_19 fX6_47 rfl (by decide) (by decide) (by decide) rfl hT ?_
  refine go_geti dX6_duel_22 fX6_91 rfl (by decide) (by decide) (by decide) rfl t7 ?_
  refine go_if_eq 31 dX6_duel_25 (by decide) (fun h25 => ?_) (fun h => absurd (rfl) h)
  refine go_aload_n dX6_duel_31 rfl ?_
  refine go_getc dX6_duel_32 fX6_59 rfl (by decide) (by decide) (by decide) rfl ?_
  refine go_aload_n dX6_duel_35 rfl ?_
  refine go_getm dX6_duel_36 fX6_47 rfl (by decide) (by decide) (by decide) rfl hT ?_
  refine go_iconst (nI 1) dX6_duel_39 (by decide +kernel) ?_
  refine go_iload_n dX6_duel_40 rfl ?_
  refine go_ishl dX6_duel_41 (nb_one (by omega)) ?_
  refine go_callV0 (K' := kX2_want) [_, _] dX6_duel_42 mX6_219 lX2_want rfl (by decide) rfl (by decide) rfl rfl (Nat.le_of_ble_eq_true rfl) (Nat.le_of_ble_eq_true rfl) (c_want_29) ?_
  refine go_aload_n dX6_duel_45 rfl ?_
  refine go_getc dX6_duel_46 fX6_59 rfl (by decide) (by decide) (by decide) rfl ?_
  refine go_aload_n dX6_duel_49 rfl ?_
  refine go_getc dX6_duel_50 fX6_19 rfl (by decide) (by decide) (by decide) rfl ?_
  refine go_geti dX6_duel_53 fX6_94 rfl (by decide) (by decide) (by decide) rfl s4 ?_
  refine go_aload_n dX6_duel_56 rfl ?_
  refine go_getc dX6_duel_57 fX6_19 rfl (by decide) (by decide) (by decide) rfl ?_
  refine go_getc dX6_duel_60 fX6_130 rfl (by decide) (by decide) (by decide) rfl ?_
  refine go_iload_n dX6_duel_63 rfl ?_
  refine go_iald dX6_duel_64 rfl (by decide) rfl (by omega) (by decide) sk ?_
  refine go_callV1 (K' := kX2_wonBy) [_, _] dX6_duel_65 mX6_223 lX2_wonBy rfl (by decide) rfl (by decide) rfl rfl (Nat.le_of_ble_eq_true rfl) (Nat.le_of_ble_eq_true rfl) (c1) ?_
  refine go_aload_n dX6_duel_68 rfl ?_
  refine go_iload_n dX6_duel_69 rfl ?_
  refine go_callV1 (K' := kX6_leftOf) [_] dX6_duel_70 mX6_201 lX6_leftOf rfl (by decide) rfl (by decide) rfl rfl (Nat.le_of_ble_eq_true rfl) (Nat.le_of_ble_eq_true rfl) (c_leftOfX_29 ((congrFun f1.1 0).trans hT) (by omega) ((congrFun (f1.2 32 (by decide)) n).trans ha) (by rw [e7]; exact hb) hab) ?_
  refine go_ishr dX6_duel_73 (nb_shr (by omega) (by omega)) ?_
  refine go_iconst (nI 1) dX6_duel_74 (by decide +kernel) ?_
  refine go_iand dX6_duel_75 (wn_bit _ _) ?_
  exact go_iret dX6_duel_76 rfl rfl rfl
def WnOk_35 (O : gOm) (d : Nat) (G : Nat → Nat → Nat) (w r : Nat) : Prop := ∀ (m : gMem) (h k : Nat), h + r = 6 → k < 64 → OkD m 35 G w → WnM G w (m.1 42) → ∃ m', Ca O d kX2_wonBy [.ref 41, .int (nI h), .int (nI k)] (some (.int (nI (won G w r k)))) m m' ∧ Fr [42] m m' ∧ WnM G w (m'.1 42)
theorem c_wonByChoice_35 {O : gOm} {d : Nat} {m : gMem} {G : Nat → Nat → Nat} {w r h k c : Nat} (hN : WnOk_35 O (d + 2) G w r) (hg : ∀ h a, G h a < 64) (hr : h + (r + 1) = 6) (hk : k < 64) (hc8 : c < 8) (hD : OkD m 35 G w) (hM : WnM G w (m.1 42)) : ∃ m', Ca O (d + 3) kX2_wonByChoice [.ref 41, .int (nI h), .int (nI k), .int (nI c)] (some (.int (nI (wcN (G h) (won G w r) k c)))) m m' ∧ Fr [42] m m' ∧ WnM G w (m'.1 42) := by
  have cb : ∀ (m1 : gMem) (S : Nat), OkD m1 35 G w → S < 8 → Ca O (d + 2) kX2_behind [.ref 41, .int (nI h), .int (nI S), .int (nI k)] (some (.int (oI (-1) (bh (G h) S k)))) m1 m1 := fun m1 S hD1 hS => c_obh_35 (O := O) (d := d) (k := k) (gr := G h) (S := S) (h := h) hD1.1 (fun a ha => hD1.2.2 h a (by omega) ha) (hg h) (by omega) hS hk
  have cb0 := cb m c hD hc8
  cases hb0 : bh (G h) c k with
  | none =>
    rw [hb0] at cb0
    refine ⟨m, ?_, Fr.rf _ _, hM⟩
    show Go O (d + 3) kX2_wonByChoice _ m 0 [.ref 41, .int (nI h), .int (nI k), .int (nI c), .null, .null, .null, .null, .null, .null, .null] [] m
    refine go_aload_n dX2_wonByChoice_0 rfl ?_
    refine go_iload_n dX2_wonByChoice_1 rfl ?_
    refine go_iload_n dX2_wonByChoice_2 rfl ?_
    refine go_iload_n dX2_wonByChoice_3 rfl ?_
    refine go_callV1 (K' := kX2_behind) [_, _, _] dX2_wonByChoice_4 mX2_38 lX2_behind rfl (by decide) rfl (by decide) rfl rfl (Nat.le_of_ble_eq_true rfl) (Nat.le_of_ble_eq_true rfl) (cb0) ?_
    refine go_if_ge 12 dX2_wonByChoice_7 (by decide) (fun h => absurd h (by decide +kernel)) (fun h7 => ?_)
    refine go_iconst (nI 0) dX2_wonByChoice_10 (by decide +kernel) ?_
    exact go_iret dX2_wonByChoice_11 rfl (by simp only [wcN, hb0]) rfl
  | some s0 =>
    rw [hb0] at cb0
    have hs0 := bh_lt hk (hg h) hb0
    obtain ⟨i0, hi0⟩ : ∃ i0, (if c = 0 then 1023 else 1022) = i0 := ⟨_, rfl⟩
    have hi0l : i0 ≤ 1023 := by rw [← hi0]; split <;> omega
    have er : wcN (G h) (won G w r) k c = awA (G h) (won G w r) k c i0 4 := by simp only [wcN, hb0, hi0]
    rw [er]
    have key : ∀ q j (m1 : gMem), j + q = 4 → OkD m1 35 G w → WnM G w (m1.1 42) → ∃ m', (∀ x y z, Go O (d + 3) kX2_wonByChoice (some (.int (nI (awA (G h) (won G w r) k c i0 4)))) m' 40 [.ref 41, .int (nI h), .int (nI k), .int (nI c), .int (nI (awA (G h) (won G w r) k c i0 j)), .ref 69, .int (nI 4), .int (nI j), x, y, z] [] m1) ∧ Fr [42] m1 m' ∧ WnM G w (m'.1 42) := by
      intro q
      induction q with
      | zero =>
        intro j m1 hj hD1 hM1
        obtain rfl : j = 4 := by omega
        refine ⟨m1, fun x y z => ?_, Fr.rf _ _, hM1⟩
        refine go_iload dX2_wonByChoice_40 rfl ?_
        refine go_iload dX2_wonByChoice_42 rfl ?_
        refine go_icmp_ge 117 dX2_wonByChoice_44 (by decide) (fun h44 => ?_) (fun h => absurd (nI_le (by omega) (by omega)) h)
        refine go_iload dX2_wonByChoice_117 rfl ?_
        exact go_iret dX2_wonByChoice_119 rfl rfl rfl
      | succ q ih =>
        intro j m1 hj hD1 hM1
        have hch := chN_8 j
        have hS8 := or_lt8 hc8 hch
        have hS6 := pc6_le (c ||| chN j)
        have hand : c &&& chN j < 8 := Nat.and_lt_two_pow (n := 3) _ hch
        have haw := awA_le (G h) (won G w r) k c i0 j
        have cb1 := cb m1 (c ||| chN j) hD1 hS8
        cases hb : bh (G h) (c ||| chN j) k with
        | none =>
          rw [hb] at cb1
          obtain ⟨m', g1, f1, v1⟩ := ih (j + 1) m1 (by omega) hD1 hM1
          rw [show awA (G h) (won G w r) k c i0 (j + 1) = awA (G h) (won G w r) k c i0 j by rw [awA, awT, hb]] at g1
          refine ⟨m', fun x y z => ?_, f1, v1⟩
          refine go_iload dX2_wonByChoice_40 rfl ?_
          refine go_iload dX2_wonByChoice_42 rfl ?_
          refine go_icmp_ge 117 dX2_wonByChoice_44 (by decide) (fun h => absurd h (nI_ge (by omega) (by omega))) (fun h44 => ?_)
          refine go_aload dX2_wonByChoice_47 rfl ?_
          refine go_iload dX2_wonByChoice_49 rfl ?_
          refine go_cald dX2_wonByChoice_51 rfl (by omega) ?_
          refine go_top (nI (chN j)) (gch_N j (by omega)) ?_
          refine go_istore (L' := [_, _, _, _, _, _, _, _, _, _, _]) dX2_wonByChoice_52 (by decide) rfl ?_
          refine go_aload_n dX2_wonByChoice_54 rfl ?_
          refine go_iload_n dX2_wonByChoice_55 rfl ?_
          refine go_iload_n dX2_wonByChoice_56 rfl ?_
          refine go_iload dX2_wonByChoice_57 rfl ?_
          refine go_ior dX2_wonByChoice_59 (nb_or _ _) ?_
          refine go_iload_n dX2_wonByChoice_60 rfl ?_
          refine go_callV1 (K' := kX2_behind) [_, _, _] dX2_wonByChoice_61 mX2_38 lX2_behind rfl (by decide) rfl (by decide) rfl rfl (Nat.le_of_ble_eq_true rfl) (Nat.le_of_ble_eq_true rfl) (cb1) ?_
          refine go_istore (L' := [_, _, _, _, _, _, _, _, _, _, _]) dX2_wonByChoice_64 (by decide) rfl ?_
          refine go_iload dX2_wonByChoice_66 rfl ?_
          refine go_if_lt 111 dX2_wonByChoice_68 (by decide) (fun h68 => ?_) (fun h => absurd (by decide +kernel) h)
          refine go_iinc_n (L' := [_, _, _, _, _, _, _, _, _, _, _]) dX2_wonByChoice_111 rfl (by decide) rfl ?_
          refine go_goto 40 dX2_wonByChoice_114 (by decide) ?_
          exact g1 _ _ _
        | some s =>
          rw [hb] at cb1
          have hs := bh_lt hk (hg h) hb
          by_cases hz : c &&& chN j = 0
          · obtain ⟨m2, c2, f2, v2⟩ := hN m1 (h + 1) s (by omega) hs hD1 hM1
            have hw := won_lt G w r s
            have hp2 : 2 ^ pc6 (c ||| chN j) ≤ 2 ^ 6 := Nat.pow_le_pow_right (by omega) hS6
            have hp0 : 0 < 2 ^ pc6 (c ||| chN j) := Nat.two_pow_pos _
            have hmul : won G w r s * 2 ^ pc6 (c ||| chN j) < 2 ^ 32 := Nat.lt_of_le_of_lt (Nat.mul_le_mul (show won G w r s ≤ 1024 by omega) hp2) (by decide)
            obtain ⟨m', g1, f1, v1⟩ := ih (j + 1) m2 (by omega) (hD1.fr f2 (by decide) (by decide)) v2
            rw [show awA (G h) (won G w r) k c i0 (j + 1) = awA (G h) (won G w r) k c i0 j &&& (won G w r s * 2 ^ pc6 (c ||| chN j) ||| (2 ^ pc6 (c ||| chN j) - 1)) by rw [awA, awT, hb]; dsimp only; rw [if_pos hz]] at g1
            refine ⟨m', fun x y z => ?_, f2.trans f1, v1⟩
            refine go_iload dX2_wonByChoice_40 rfl ?_
            refine go_iload dX2_wonByChoice_42 rfl ?_
            refine go_icmp_ge 117 dX2_wonByChoice_44 (by decide) (fun h => absurd h (nI_ge (by omega) (by omega))) (fun h44 => ?_)
            refine go_aload dX2_wonByChoice_47 rfl ?_
            refine go_iload dX2_wonByChoice_49 rfl ?_
            refine go_cald dX2_wonByChoice_51 rfl (by omega) ?_
            refine go_top (nI (chN j)) (gch_N j (by omega)) ?_
            refine go_istore (L' := [_, _, _, _, _, _, _, _, _, _, _]) dX2_wonByChoice_52 (by decide) rfl ?_
            refine go_aload_n dX2_wonByChoice_54 rfl ?_
            refine go_iload_n dX2_wonByChoice_55 rfl ?_
            refine go_iload_n dX2_wonByChoice_56 rfl ?_
            refine go_iload dX2_wonByChoice_57 rfl ?_
            refine go_ior dX2_wonByChoice_59 (nb_or _ _) ?_
            refine go_iload_n dX2_wonByChoice_60 rfl ?_
            refine go_callV1 (K' := kX2_behind) [_, _, _] dX2_wonByChoice_61 mX2_38 lX2_behind rfl (by decide) rfl (by decide) rfl rfl (Nat.le_of_ble_eq_true rfl) (Nat.le_of_ble_eq_true rfl) (cb1) ?_
            refine go_istore (L' := [_, _, _, _, _, _, _, _, _, _, _]) dX2_wonByChoice_64 (by decide) rfl ?_
            refine go_iload dX2_wonByChoice_66 rfl ?_
            refine go_if_lt 111 dX2_wonByChoice_68 (by decide) (fun h => absurd h (nI_pos (by omega))) (fun h68 => ?_)
            refine go_iload_n dX2_wonByChoice_71 rfl ?_
            refine go_iload dX2_wonByChoice_72 rfl ?_
            refine go_iand dX2_wonByChoice_74 (nb_and _ _) ?_
            refine go_if_ne 111 dX2_wonByChoice_75 (by decide) (fun h => absurd h (fun q => q (by rw [hz]; rfl))) (fun h75 => ?_)
            refine go_iload_n dX2_wonByChoice_78 rfl ?_
            refine go_iload dX2_wonByChoice_79 rfl ?_
            refine go_ior dX2_wonByChoice_81 (nb_or _ _) ?_
            refine go_callS1 (K' := kJ6_bitCount_0f7a4) [_] dX2_wonByChoice_82 mX2_60 lJ6_bitCount_0f7a4 rfl rfl (Nat.le_of_ble_eq_true rfl) (Nat.le_of_ble_eq_true rfl) (c_bitCount (by omega)) ?_
            refine go_istore (L' := [_, _, _, _, _, _, _, _, _, _, _]) dX2_wonByChoice_85 (by decide) rfl ?_
            refine go_iload dX2_wonByChoice_87 rfl ?_
            refine go_aload_n dX2_wonByChoice_89 rfl ?_
            refine go_iload_n dX2_wonByChoice_90 rfl ?_
            refine go_iconst (nI 1) dX2_wonByChoice_91 (by decide +kernel) ?_
            first | refine go_iadd_n dX2_wonByChoice_92 ?_ | refine go_iadd dX2_wonByChoice_92 rfl ?_
            refine go_iload dX2_wonByChoice_93 rfl ?_
            refine go_callV1 (K' := kX2_wonBy) [_, _] dX2_wonByChoice_95 mX2_78 lX2_wonBy rfl (by decide) rfl (by decide) rfl rfl (Nat.le_of_ble_eq_true rfl) (Nat.le_of_ble_eq_true rfl) (c2) ?_
            refine go_iload dX2_wonByChoice_98 rfl ?_
            refine go_ishl dX2_wonByChoice_100 (nb_shl (by omega) hmul) ?_
            refine go_iconst (nI 1) dX2_wonByChoice_101 (by decide +kernel) ?_
            refine go_iload dX2_wonByChoice_102 rfl ?_
            refine go_ishl dX2_wonByChoice_104 (nb_one (by omega)) ?_
            refine go_iconst (nI 1) dX2_wonByChoice_105 (by decide +kernel) ?_
            refine go_isub dX2_wonByChoice_106 (pk_sub (by omega)) ?_
            refine go_ior dX2_wonByChoice_107 (nb_or _ _) ?_
            refine go_iand dX2_wonByChoice_108 (nb_and _ _) ?_
            refine go_istore (L' := [_, _, _, _, _, _, _, _, _, _, _]) dX2_wonByChoice_109 (by decide) rfl ?_
            refine go_iinc_n (L' := [_, _, _, _, _, _, _, _, _, _, _]) dX2_wonByChoice_111 rfl (by decide) rfl ?_
            refine go_goto 40 dX2_wonByChoice_114 (by decide) ?_
            exact g1 _ _ _
          · obtain ⟨m', g1, f1, v1⟩ := ih (j + 1) m1 (by omega) hD1 hM1
            rw [show awA (G h) (won G w r) k c i0 (j + 1) = awA (G h) (won G w r) k c i0 j by rw [awA, awT, hb]; dsimp only; rw [if_neg hz]] at g1
            refine ⟨m', fun x y z => ?_, f1, v1⟩
            refine go_iload dX2_wonByChoice_40 rfl ?_
            refine go_iload dX2_wonByChoice_42 rfl ?_
            refine go_icmp_ge 117 dX2_wonByChoice_44 (by decide) (fun h => absurd h (nI_ge (by omega) (by omega))) (fun h44 => ?_)
            refine go_aload dX2_wonByChoice_47 rfl ?_
            refine go_iload dX2_wonByChoice_49 rfl ?_
            refine go_cald dX2_wonByChoice_51 rfl (by omega) ?_
            refine go_top (nI (chN j)) (gch_N j (by omega)) ?_
            refine go_istore (L' := [_, _, _, _, _, _, _, _, _, _, _]) dX2_wonByChoice_52 (by decide) rfl ?_
            refine go_aload_n dX2_wonByChoice_54 rfl ?_
            refine go_iload_n dX2_wonByChoice_55 rfl ?_
            refine go_iload_n dX2_wonByChoice_56 rfl ?_
            refine go_iload dX2_wonByChoice_57 rfl ?_
            refine go_ior dX2_wonByChoice_59 (nb_or _ _) ?_
            refine go_iload_n dX2_wonByChoice_60 rfl ?_
            refine go_callV1 (K' := kX2_behind) [_, _, _] dX2_wonByChoice_61 mX2_38 lX2_behind rfl (by decide) rfl (by decide) rfl rfl (Nat.le_of_ble_eq_true rfl) (Nat.le_of_ble_eq_true rfl) (cb1) ?_
            refine go_istore (L' := [_, _, _, _, _, _, _, _, _, _, _]) dX2_wonByChoice_64 (by decide) rfl ?_
            refine go_iload dX2_wonByChoice_66 rfl ?_
            refine go_if_lt 111 dX2_wonByChoice_68 (by decide) (fun h => absurd h (nI_pos (by omega))) (fun h68 => ?_)
            refine go_iload_n dX2_wonByChoice_71 rfl ?_
            refine go_iload dX2_wonByChoice_72 rfl ?_
            refine go_iand dX2_wonByChoice_74 (nb_and _ _) ?_
            refine go_if_ne 111 dX2_wonByChoice_75 (by decide) (fun h75 => ?_) (fun h => absurd h (fun q => hz ((nI_eq (b := 0) (by omega) (by omega)).mp q)))
            refine go_iinc_n (L' := [_, _, _, _, _, _, _, _, _, _, _]) dX2_wonByChoice_111 rfl (by decide) rfl ?_
            refine go_goto 40 dX2_wonByChoice_114 (by decide) ?_
            exact g1 _ _ _
    obtain ⟨m', g1, f1, v1⟩ := key 4 0 m (by omega) hD hM
    rw [awA] at g1
    refine ⟨m', ?_, f1, v1⟩
    show Go O (d + 3) kX2_wonByChoice _ m' 0 [.ref 41, .int (nI h), .int (nI k), .int (nI c), .null, .null, .null, .null, .null, .null, .null] [] m
    by_cases hc0 : c = 0
    · rw [if_pos hc0] at hi0
      rw [← hi0] at g1 ⊢
      refine go_aload_n dX2_wonByChoice_0 rfl ?_
      refine go_iload_n dX2_wonByChoice_1 rfl ?_
      refine go_iload_n dX2_wonByChoice_2 rfl ?_
      refine go_iload_n dX2_wonByChoice_3 rfl ?_
      refine go_callV1 (K' := kX2_behind) [_, _, _] dX2_wonByChoice_4 mX2_38 lX2_behind rfl (by decide) rfl (by decide) rfl rfl (Nat.le_of_ble_eq_true rfl) (Nat.le_of_ble_eq_true rfl) (cb0) ?_
      refine go_if_ge 12 dX2_wonByChoice_7 (by decide) (fun h7 => ?_) (fun h => absurd (nI_pos' (by omega)) h)
      refine go_iload_n dX2_wonByChoice_12 rfl ?_
      refine go_if_ne 22 dX2_wonByChoice_13 (by decide) (fun h => absurd h (fun q => q (by rw [hc0]; rfl))) (fun h13 => ?_)
      refine go_sipush (nI 1023) dX2_wonByChoice_16 (by decide +kernel) ?_
      refine go_goto 25 dX2_wonByChoice_19 (by decide) ?_
      refine go_istore (L' := [_, _, _, _, _, _, _, _, _, _, _]) dX2_wonByChoice_25 (by decide) rfl ?_
      refine go_gets dX2_wonByChoice_27 fX2_72 ?_
      refine go_astore (L' := [_, _, _, _, _, _, _, _, _, _, _]) dX2_wonByChoice_30 (by decide) rfl ?_
      refine go_aload dX2_wonByChoice_32 rfl ?_
      refine go_clen dX2_wonByChoice_34 ?_
      refine go_istore (L' := [_, _, _, _, _, _, _, _, _, _, _]) dX2_wonByChoice_35 (by decide) rfl ?_
      refine go_iconst (nI 0) dX2_wonByChoice_37 (by decide +kernel) ?_
      refine go_istore (L' := [_, _, _, _, _, _, _, _, _, _, _]) dX2_wonByChoice_38 (by decide) rfl ?_
      exact g1 _ _ _
    · rw [if_neg hc0] at hi0
      rw [← hi0] at g1 ⊢
      refine go_aload_n dX2_wonByChoice_0 rfl ?_
      refine go_iload_n dX2_wonByChoice_1 rfl ?_
      refine go_iload_n dX2_wonByChoice_2 rfl ?_
      refine go_iload_n dX2_wonByChoice_3 rfl ?_
      refine go_callV1 (K' := kX2_behind) [_, _, _] dX2_wonByChoice_4 mX2_38 lX2_behind rfl (by decide) rfl (by decide) rfl rfl (Nat.le_of_ble_eq_true rfl) (Nat.le_of_ble_eq_true rfl) (cb0) ?_
      refine go_if_ge 12 dX2_wonByChoice_7 (by decide) (fun h7 => ?_) (fun h => absurd (nI_pos' (by omega)) h)
      refine go_iload_n dX2_wonByChoice_12 rfl ?_
      refine go_if_ne 22 dX2_wonByChoice_13 (by decide) (fun h13 => ?_) (fun h => absurd h (fun q => hc0 ((nI_eq (b := 0) (by omega) (by omega)).mp q)))
      refine go_sipush (nI 1022) dX2_wonByChoice_22 (by decide +kernel) ?_
      refine go_istore (L' := [_, _, _, _, _, _, _, _, _, _, _]) dX2_wonByChoice_25 (by decide) rfl ?_
      refine go_gets dX2_wonByChoice_27 fX2_72 ?_
      refine go_astore (L' := [_, _, _, _, _, _, _, _, _, _, _]) dX2_wonByChoice_30 (by decide) rfl ?_
      refine go_aload dX2_wonByChoice_32 rfl ?_
      refine go_clen dX2_wonByChoice_34 ?_
      refine go_istore (L' := [_, _, _, _, _, _, _, _, _, _, _]) dX2_wonByChoice_35 (by decide) rfl ?_
      refine go_iconst (nI 0) dX2_wonByChoice_37 (by decide +kernel) ?_
      refine go_istore (L' := [_, _, _, _, _, _, _, _, _, _, _]) dX2_wonByChoice_38 (by decide) rfl ?_
      exact g1 _ _ _
theorem c_wonK_35 {O : gOm} {d : Nat} {m : gMem} {G : Nat → Nat → Nat} {w r h k : Nat} (hw : w < 64) (hk : k < 64) (hD : OkD m 35 G w) (hz : ¬ w &&& k = 0) : Ca O d kX2_wonBy [.ref 41, .int (nI h), .int (nI k)] (some (.int (nI (won G w r k)))) m m := by
  rw [won_k hz]
  have hand : w &&& k < 64 := Nat.and_lt_two_pow (n := 6) _ hk
  show Go O d kX2_wonBy _ m 0 [.ref 41, .int (nI h), .int (nI k), .null, .null, .null, .null, .null, .null] [] m
  refine go_aload_n dX2_wonBy_0 rfl ?_
  refine go_geti dX2_wonBy_1 fX2_42 rfl (by decide) (by decide) (by decide) rfl hD.2.1 ?_
  refine go_iload_n dX2_wonBy_4 rfl ?_
  refine go_iand dX2_wonBy_5 (nb_and _ _) ?_
  refine go_if_eq 13 dX2_wonBy_6 (by decide) (fun h => absurd h (fun q => hz ((nI_eq (b := 0) (by omega) (by omega)).mp q))) (fun h6 => ?_)
  refine go_sipush (nI 1023) dX2_wonBy_9 (by decide +kernel) ?_
  exact go_iret dX2_wonBy_12 rfl rfl rfl
theorem c_wonBy_35 {O : gOm} {d : Nat} {G : Nat → Nat → Nat} {w : Nat} (hw : w < 64) (hg : ∀ h a, G h a < 64) : ∀ r, WnOk_35 O (d + 2 * r + 2) G w r := by
  intro r
  induction r with
  | zero =>
    intro m h k hr hk hD hM
    refine ⟨m, ?_, Fr.rf _ _, hM⟩
    by_cases hz : w &&& k = 0
    · show Go O _ kX2_wonBy _ m 0 [.ref 41, .int (nI h), .int (nI k), .null, .null, .null, .null, .null, .null] [] m
      refine go_aload_n dX2_wonBy_0 rfl ?_
      refine go_geti dX2_wonBy_1 fX2_42 rfl (by decide) (by decide) (by decide) rfl hD.2.1 ?_
      refine go_iload_n dX2_wonBy_4 rfl ?_
      refine go_iand dX2_wonBy_5 (nb_and _ _) ?_
      refine go_if_eq 13 dX2_wonBy_6 (by decide) (fun h6 => ?_) (fun h => absurd (by rw [hz]; rfl) h)
      refine go_iload_n dX2_wonBy_13 rfl ?_
      refine go_bipush (nI 6) dX2_wonBy_14 (by decide +kernel) ?_
      refine go_icmp_lt 21 dX2_wonBy_16 (by decide) (fun h => absurd h (nI_nlt (by omega) (by omega))) (fun h16 => ?_)
      refine go_iconst (nI 0) dX2_wonBy_19 (by decide +kernel) ?_
      exact go_iret dX2_wonBy_20 rfl (by rw [won, if_pos hz]) rfl
    · exact c_wonK_35 hw hk hD hz
  | succ r ih =>
    intro m h k hr hk hD hM
    by_cases hz : w &&& k = 0
    · have e6 : 6 - h = r + 1 := by omega
      have e5 : 5 - r = h := by omega
      have ew : won G w (r + 1) k = orA (fun j => wcN (G h) (won G w r) k (chN j)) 4 := by rw [won, if_pos hz, e5]
      rcases hM h k (by omega) hk with e | e
      · have key : ∀ q j (m1 : gMem), j + q = 4 → OkD m1 35 G w → WnM G w (m1.1 42) → ∃ m', (∀ x, Go O (d + 2 * r + 4) kX2_wonBy (some (.int (nI (won G w (r + 1) k)))) m' 54 [.ref 41, .int (nI h), .int (nI k), .int (nI (h * 64 + k)), .int (nI (orA (fun j => wcN (G h) (won G w r) k (chN j)) j)), .ref 69, .int (nI 4), .int (nI j), x] [] m1) ∧ Fr [42] m1 m' ∧ WnM G w (m'.1 42) := by
          intro q
          induction q with
          | zero =>
            intro j m1 hj hD1 hM1
            obtain rfl : j = 4 := by omega
            have es := hM1.set (h := h) (k := k) (by omega) hk
            rw [e6] at es
            refine ⟨gup m1 42 (h * 64 + k) (nI (won G w (r + 1) k)), fun x => ?_, (Fr.rf _ _).up (by decide) _ _, by rw [gupd]; exact es⟩
            rw [← ew]
            refine go_iload dX2_wonBy_54 rfl ?_
            refine go_iload dX2_wonBy_56 rfl ?_
            refine go_icmp_ge 87 dX2_wonBy_58 (by decide) (fun h58 => ?_) (fun h => absurd (nI_le (by omega) (by omega)) h)
            refine go_aload_n dX2_wonBy_87 rfl ?_
            refine go_getc dX2_wonBy_88 fX2_9 rfl (by decide) (by decide) (by decide) rfl ?_
            refine go_iload_n dX2_wonBy_91 rfl ?_
            refine go_iload dX2_wonBy_92 rfl ?_
            refine go_iast dX2_wonBy_94 rfl (by decide) rfl (by omega) (by decide) ?_
            refine go_aload_n dX2_wonBy_95 rfl ?_
            refine go_getc dX2_wonBy_96 fX2_9 rfl (by decide) (by decide) (by decide) rfl ?_
            refine go_iload_n dX2_wonBy_99 rfl ?_
            refine go_iald dX2_wonBy_100 rfl (by decide) rfl (by omega) (by decide) (gup_s _ 42 _ _) ?_
            exact go_iret dX2_wonBy_101 rfl rfl rfl
          | succ q ihq =>
            intro j m1 hj hD1 hM1
            obtain ⟨m2, c2, f2, v2⟩ := c_wonByChoice_35 (d := d + 2 * r) (c := chN j) (k := k) (h := h) ih hg hr hk (chN_8 j) hD1 hM1
            obtain ⟨m', g1, f1, v1⟩ := ihq (j + 1) m2 (by omega) (hD1.fr f2 (by decide) (by decide)) v2
            refine ⟨m', fun x => ?_, f2.trans f1, v1⟩
            refine go_iload dX2_wonBy_54 rfl ?_
            refine go_iload dX2_wonBy_56 rfl ?_
            refine go_icmp_ge 87 dX2_wonBy_58 (by decide) (fun h => absurd h (nI_ge (by omega) (by omega))) (fun h58 => ?_)
            refine go_aload dX2_wonBy_61 rfl ?_
            refine go_iload dX2_wonBy_63 rfl ?_
            refine go_cald dX2_wonBy_65 rfl (by omega) ?_
            refine go_top (nI (chN j)) (gch_N j (by omega)) ?_
            refine go_istore (L' := [_, _, _, _, _, _, _, _, _]) dX2_wonBy_66 (by decide) rfl ?_
            refine go_iload dX2_wonBy_68 rfl ?_
            refine go_aload_n dX2_wonBy_70 rfl ?_
            refine go_iload_n dX2_wonBy_71 rfl ?_
            refine go_iload_n dX2_wonBy_72 rfl ?_
            refine go_iload dX2_wonBy_73 rfl ?_
            refine go_callV1 (K' := kX2_wonByChoice) [_, _, _] dX2_wonBy_75 mX2_75 lX2_wonByChoice rfl (by decide) rfl (by decide) rfl rfl (Nat.le_of_ble_eq_true rfl) (Nat.le_of_ble_eq_true rfl) (c2) ?_
            refine go_ior dX2_wonBy_78 (nb_or _ _) ?_
            refine go_istore (L' := [_, _, _, _, _, _, _, _, _]) dX2_wonBy_79 (by decide) rfl ?_
            refine go_iinc_n (L' := [_, _, _, _, _, _, _, _, _]) dX2_wonBy_81 rfl (by decide) rfl ?_
            refine go_goto 54 dX2_wonBy_84 (by decide) ?_
            exact g1 _
        obtain ⟨m', g1, f1, v1⟩ := key 4 0 m (by omega) hD hM
        refine ⟨m', ?_, f1, v1⟩
        show Go O (d + 2 * r + 4) kX2_wonBy _ m' 0 [.ref 41, .int (nI h), .int (nI k), .null, .null, .null, .null, .null, .null] [] m
        refine go_aload_n dX2_wonBy_0 rfl ?_
        refine go_geti dX2_wonBy_1 fX2_42 rfl (by decide) (by decide) (by decide) rfl hD.2.1 ?_
        refine go_iload_n dX2_wonBy_4 rfl ?_
        refine go_iand dX2_wonBy_5 (nb_and _ _) ?_
        refine go_if_eq 13 dX2_wonBy_6 (by decide) (fun h6 => ?_) (fun h => absurd (by rw [hz]; rfl) h)
        refine go_iload_n dX2_wonBy_13 rfl ?_
        refine go_bipush (nI 6) dX2_wonBy_14 (by decide +kernel) ?_
        refine go_icmp_lt 21 dX2_wonBy_16 (by decide) (fun h16 => ?_) (fun h => absurd (nI_lt (by omega) (by omega)) h)
        refine go_iload_n dX2_wonBy_21 rfl ?_
        refine go_bipush (nI 64) dX2_wonBy_22 (by decide +kernel) ?_
        first | refine go_imul_n dX2_wonBy_24 ?_ | refine go_imul dX2_wonBy_24 rfl ?_
        refine go_iload_n dX2_wonBy_25 rfl ?_
        first | refine go_iadd_n dX2_wonBy_26 ?_ | refine go_iadd dX2_wonBy_26 rfl ?_
        refine go_istore_n (L' := [_, _, _, _, _, _, _, _, _]) dX2_wonBy_27 (by decide) rfl ?_
        refine go_aload_n dX2_wonBy_28 rfl ?_
        refine go_getc dX2_wonBy_29 fX2_9 rfl (by decide) (by decide) (by decide) rfl ?_
        refine go_iload_n dX2_wonBy_32 rfl ?_
        refine go_iald dX2_wonBy_33 rfl (by decide) rfl (by omega) (by decide) e ?_
        refine go_iconst (-1) dX2_wonBy_34 (by decide +kernel) ?_
        refine go_icmp_ne 95 dX2_wonBy_35 (by decide) (fun h => absurd h (fun q => q rfl)) (fun h35 => ?_)
        refine go_iconst (nI 0) dX2_wonBy_38 (by decide +kernel) ?_
        refine go_istore (L' := [_, _, _, _, _, _, _, _, _]) dX2_wonBy_39 (by decide) rfl ?_
        refine go_gets dX2_wonBy_41 fX2_72 ?_
        refine go_astore (L' := [_, _, _, _, _, _, _, _, _]) dX2_wonBy_44 (by decide) rfl ?_
        refine go_aload dX2_wonBy_46 rfl ?_
        refine go_clen dX2_wonBy_48 ?_
        refine go_istore (L' := [_, _, _, _, _, _, _, _, _]) dX2_wonBy_49 (by decide) rfl ?_
        refine go_iconst (nI 0) dX2_wonBy_51 (by decide +kernel) ?_
        refine go_istore (L' := [_, _, _, _, _, _, _, _, _]) dX2_wonBy_52 (by decide) rfl ?_
        exact g1 _
      · have hc := won_lt G w (6 - h) k
        refine ⟨m, ?_, Fr.rf _ _, hM⟩
        show Go O (d + 2 * r + 4) kX2_wonBy _ m 0 [.ref 41, .int (nI h), .int (nI k), .null, .null, .null, .null, .null, .null] [] m
        refine go_aload_n dX2_wonBy_0 rfl ?_
        refine go_geti dX2_wonBy_1 fX2_42 rfl (by decide) (by decide) (by decide) rfl hD.2.1 ?_
        refine go_iload_n dX2_wonBy_4 rfl ?_
        refine go_iand dX2_wonBy_5 (nb_and _ _) ?_
        refine go_if_eq 13 dX2_wonBy_6 (by decide) (fun h6 => ?_) (fun h => absurd (by rw [hz]; rfl) h)
        refine go_iload_n dX2_wonBy_13 rfl ?_
        refine go_bipush (nI 6) dX2_wonBy_14 (by decide +kernel) ?_
        refine go_icmp_lt 21 dX2_wonBy_16 (by decide) (fun h16 => ?_) (fun h => absurd (nI_lt (by omega) (by omega)) h)
        refine go_iload_n dX2_wonBy_21 rfl ?_
        refine go_bipush (nI 64) dX2_wonBy_22 (by decide +kernel) ?_
        first | refine go_imul_n dX2_wonBy_24 ?_ | refine go_imul dX2_wonBy_24 rfl ?_
        refine go_iload_n dX2_wonBy_25 rfl ?_
        first | refine go_iadd_n dX2_wonBy_26 ?_ | refine go_iadd dX2_wonBy_26 rfl ?_
        refine go_istore_n (L' := [_, _, _, _, _, _, _, _, _]) dX2_wonBy_27 (by decide) rfl ?_
        refine go_aload_n dX2_wonBy_28 rfl ?_
        refine go_getc dX2_wonBy_29 fX2_9 rfl (by decide) (by decide) (by decide) rfl ?_
        refine go_iload_n dX2_wonBy_32 rfl ?_
        refine go_iald dX2_wonBy_33 rfl (by decide) rfl (by omega) (by decide) e ?_
        refine go_iconst (-1) dX2_wonBy_34 (by decide +kernel) ?_
        refine go_icmp_ne 95 dX2_wonBy_35 (by decide) (fun h35 => ?_) (fun h => absurd h (nI_n1 (by omega)))
        refine go_aload_n dX2_wonBy_95 rfl ?_
        refine go_getc dX2_wonBy_96 fX2_9 rfl (by decide) (by decide) (by decide) rfl ?_
        refine go_iload_n dX2_wonBy_99 rfl ?_
        refine go_iald dX2_wonBy_100 rfl (by decide) rfl (by omega) (by decide) e ?_
        exact go_iret dX2_wonBy_101 rfl (by rw [e6]) rfl
    · exact ⟨m, c_wonK_35 hw hk hD hz, Fr.rf _ _, hM⟩
theorem c_duelX_35 {O : gOm} {d : Nat} {m : gMem} {G : Nat → Nat → Nat} {hr k0 n p a b N P : Nat} (hT : m.2 0 = 35) (t5 : m.1 35 5 = nI P) (hP6 : P ≤ 6) (hpP : p < P) (t6 : m.1 35 6 = nI N) (hN3 : N ≤ 3) (hnN : n < N) (t7 : m.1 35 7 = nI 0) (hg : ∀ h a, G h a < 64) (hr6 : hr < 6) (hk : k0 < 64) (hG : ∀ h a, h < 6 → a < 3 → m.1 37 (h * 3 + a) = nI (G h a)) (s4 : m.1 3 4 = nI hr) (sk : m.1 4 n = nI k0) (ha : m.1 38 n = nI a) (hb : nI 0 + m.1 7 (n * 3 + 0) + m.1 7 (n * 3 + 1) + m.1 7 (n * 3 + 2) = nI b) (hab : b ≤ a) (ha9 : a ≤ 9) : ∃ m1, Ca O (d + 16) kX6_duel [.ref 0, .int (nI n), .int (nI p)] (some (.int (bI ((won G (2 ^ p) (6 - hr) k0).testBit (a - b))))) m m1 ∧ (∀ k, k ≠ 41 → k ≠ 42 → m1.1 k = m.1 k) ∧ m1.2 0 = m.2 0 ∧ m1.2 1 = m.2 1 := by
  have e2 : 2 ^ p ≤ 32 := Nat.pow_le_pow_right (n := 2) (by omega) (show p ≤ 5 by omega)
  have o1 : OkD (wtM_35 m (nI (2 ^ p))) 35 G (2 ^ p) := (wtM_ok_35 (w := 2 ^ p) hG).1
  have o2 : WnM G (2 ^ p) ((wtM_35 m (nI (2 ^ p))).1 42) := by
    intro h k hh hk
    refine Or.inl ?_
    show flP (m.1 42) (-1) 384 (h * 64 + k) = -1
    rw [flP_at, if_pos (by omega)]
  obtain ⟨m', c1, f1, v1⟩ := c_wonBy_35 (O := O) (d := d + (13 - 2 * (6 - hr))) (w := 2 ^ p) (by omega) hg (6 - hr) (wtM_35 m (nI (2 ^ p))) hr k0 (by omega) hk o1 o2
  rw [show d + (13 - 2 * (6 - hr)) + 2 * (6 - hr) + 2 = d + 15 by omega] at c1
  have hwl := won_lt G (2 ^ p) (6 - hr) k0
  have e7 : m'.1 7 = m.1 7 := (f1.2 7 (by decide)).trans rfl
  refine ⟨m', ?_, fun k z1 z2 => (f1.2 k (by simp [z2])).trans (by unfold wtM_35; rw [gupA_k _ _ z2, gup_k _ _ z1]; rfl), (congrFun f1.1 0).trans rfl, (congrFun f1.1 1).trans rfl⟩
  show Go O (d + 16) kX6_duel _ m' 0 [.ref 0, .int (nI n), .int (nI p)] [] m
  refine go_aload_n dX6_duel_0 rfl ?_
  refine go_iload_n dX6_duel_1 rfl ?_
  refine go_callV1 (K' := kX6_isPerson) [_] dX6_duel_2 mX6_105 lX6_isPerson rfl (by decide) rfl (by decide) rfl rfl (Nat.le_of_ble_eq_true rfl) (Nat.le_of_ble_eq_true rfl) (c_isPerson_35 hT t5 hP6) ?_
  refine go_if_eq 16 dX6_duel_5 (by decide) (fun h => absurd h (bI_n0.mpr (iR_nI hpP (by omega)))) (fun h5 => ?_)
  refine go_aload_n dX6_duel_8 rfl ?_
  refine go_iload_n dX6_duel_9 rfl ?_
  refine go_callV1 (K' := kX6_isNews) [_] dX6_duel_10 mX6_116 lX6_isNews rfl (by decide) rfl (by decide) rfl rfl (Nat.le_of_ble_eq_true rfl) (Nat.le_of_ble_eq_true rfl) (c_isNews_35 hT t6 (by omega)) ?_
  refine go_if_ne 18 dX6_duel_13 (by decide) (fun h13 => ?_) (fun h => absurd h (bI_n0.mpr (iR_nI hnN (by omega))))
  refine go_aload_n dX6_duel_18 rfl ?_
  refine go_getm dX6_duel_19 fX6_47 rfl (by decide) (by decide) (by decide) rfl hT ?_
  refine go_geti dX6_duel_22 fX6_91 rfl (by decide) (by decide) (by decide) rfl t7 ?_
  refine go_if_eq 31 dX6_duel_25 (by decide) (fun h25 => ?_) (fun h => absurd (rfl) h)
  refine go_aload_n dX6_duel_31 rfl ?_
  refine go_getc dX6_duel_32 fX6_59 rfl (by decide) (by decide) (by decide) rfl ?_
  refine go_aload_n dX6_duel_35 rfl ?_
  refine go_getm dX6_duel_36 fX6_47 rfl (by decide) (by decide) (by decide) rfl hT ?_
  refine go_iconst (nI 1) dX6_duel_39 (by decide +kernel) ?_
  refine go_iload_n dX6_duel_40 rfl ?_
  refine go_ishl dX6_duel_41 (nb_one (by omega)) ?_
  refine go_callV0 (K' := kX2_want) [_, _] dX6_duel_42 mX6_219 lX2_want rfl (by decide) rfl (by decide) rfl rfl (Nat.le_of_ble_eq_true rfl) (Nat.le_of_ble_eq_true rfl) (c_want_35) ?_
  refine go_aload_n dX6_duel_45 rfl ?_
  refine go_getc dX6_duel_46 fX6_59 rfl (by decide) (by decide) (by decide) rfl ?_
  refine go_aload_n dX6_duel_49 rfl ?_
  refine go_getc dX6_duel_50 fX6_19 rfl (by decide) (by decide) (by decide) rfl ?_
  refine go_geti dX6_duel_53 fX6_94 rfl (by decide) (by decide) (by decide) rfl s4 ?_
  refine go_aload_n dX6_duel_56 rfl ?_
  refine go_getc dX6_duel_57 fX6_19 rfl (by decide) (by decide) (by decide) rfl ?_
  refine go_getc dX6_duel_60 fX6_130 rfl (by decide) (by decide) (by decide) rfl ?_
  refine go_iload_n dX6_duel_63 rfl ?_
  refine go_iald dX6_duel_64 rfl (by decide) rfl (by omega) (by decide) sk ?_
  refine go_callV1 (K' := kX2_wonBy) [_, _] dX6_duel_65 mX6_223 lX2_wonBy rfl (by decide) rfl (by decide) rfl rfl (Nat.le_of_ble_eq_true rfl) (Nat.le_of_ble_eq_true rfl) (c1) ?_
  refine go_aload_n dX6_duel_68 rfl ?_
  refine go_iload_n dX6_duel_69 rfl ?_
  refine go_callV1 (K' := kX6_leftOf) [_] dX6_duel_70 mX6_201 lX6_leftOf rfl (by decide) rfl (by decide) rfl rfl (Nat.le_of_ble_eq_true rfl) (Nat.le_of_ble_eq_true rfl) (c_leftOfX_35 ((congrFun f1.1 0).trans hT) (by omega) ((congrFun (f1.2 38 (by decide)) n).trans ha) (by rw [e7]; exact hb) hab) ?_
  refine go_ishr dX6_duel_73 (nb_shr (by omega) (by omega)) ?_
  refine go_iconst (nI 1) dX6_duel_74 (by decide +kernel) ?_
  refine go_iand dX6_duel_75 (wn_bit _ _) ?_
  exact go_iret dX6_duel_76 rfl rfl rfl
