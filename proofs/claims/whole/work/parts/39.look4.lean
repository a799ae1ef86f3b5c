theorem rfP_0 {n x : Int32} {P N lw : Nat} (h : rfP n x P N lw = 0) : (∃ j, j < N ∧ n = nI j) ∧ (∃ j, j < 2 ^ P ∧ x = nI j) ∧ lw = 0 := by
  unfold rfP at h
  split at h
  · exact absurd h (by decide +kernel)
  · rename_i h1
    split at h
    · exact absurd h (by decide +kernel)
    · rename_i h2
      split at h
      · exact absurd h (by decide +kernel)
      · rename_i h3
        refine ⟨iR_of (by cases z : iR n N with
          | true => rfl
          | false => exact absurd z h1), iR_of (by cases z : iR x (2 ^ P) with
          | true => rfl
          | false => exact absurd z h2), by omega⟩
theorem op_fewest_29 {O : gOm} {d : Nat} {m : gMem} {n x : Int32} (h0 : Inv m) (hT : m.2 0 = 29) : OpOk O (d + 40) kX6_fewest kX7_fewest [.int n, .int x] m := by
  have hthr := h0.thr
  have hin0 := h0
  obtain ⟨P, N, lw, hr, a, c, L, lim, h1, h2, h3, h4, h5, h6, h7, h8⟩ := h0
  obtain ⟨hP, hP6, hN, hN3, hlw, hl3, hw, hlim, hfs⟩ := id h2
  obtain ⟨t5, t6, t7, tp, tg, tn⟩ : IvT m 29 P N lw := hT ▸ h3
  obtain ⟨⟨s4, sk, st, sa, spl⟩, h11, ok1, ok2, ok3, ok4, ok5⟩ := id h4
  by_cases hz : rfP n x P N lw = 0
  · obtain ⟨⟨n, hnN, rfl⟩, ⟨w, hw2, rfl⟩, hl0⟩ := rfP_0 hz
    have e2 : 2 ^ P ≤ 64 := Nat.pow_le_pow_right (n := 2) (by omega) hP6
    obtain ⟨k, hk, ek⟩ := ok2 n (by omega)
    obtain ⟨b, hb, eb⟩ := ok4 n (by omega) hnN
    obtain ⟨l9, el⟩ := hlim n hnN
    obtain ⟨m1, c1, f1, -, -⟩ := c_least_29 (O := O) (d := d + 23) (m := m) (G := grp (m.1 48) P) (w := w) (h := hr) (k := k) (n := n) (a := lim n) (b := b) hT (by omega) (fun h a => grp_64 _ h a hP6) ok1 hk (by omega) tg s4 ((sk n (by omega)).trans ek) ((tn n hnN).1.trans el) (by rw [spl n 0 (by omega) (by omega), spl n 1 (by omega) (by omega), spl n 2 (by omega) (by omega), ok3 n (by omega)]; exact eb) hb l9
    have g : ∀ k, k ≠ 41 → k ≠ 42 → m1.1 k = m.1 k := fun k a1 a2 => (f1.2 k (by simp [a2])).trans (by unfold wtM_29; rw [gupA_k _ _ a2, gup_k _ _ a1]; rfl)
    have g46 := g 46 (by decide) (by decide)
    have g48 := g 48 (by decide) (by decide)
    have g49 := g 49 (by decide) (by decide)
    have g52 := g 52 (by decide) (by decide)
    have e20 : m1.2 0 = m.2 0 := (congrFun f1.1 0).trans rfl
    have e21 : m1.2 1 = m.2 1 := (congrFun f1.1 1).trans rfl
    have c2 := c_findFewest (O := O) (d := d + 35) (m := (gup m1 46 0 (nI 0))) (P := P) (w := w) (hr := hr) (n := n) (k := k) (a := lim n) (b := b) ((congrFun g46 4).trans hP) hP6 ((congrFun g46 11).trans h11) ok1 (by omega) (by omega) hk ((congrFun g52 _).trans ek) ((congrFun g49 _).trans el) ((congrFun g52 _).trans eb) hb l9
    rw [show (gup m1 46 0 (nI 0)).1 48 = m.1 48 from g48] at c2
    refine ⟨(if nR (grp (m.1 48) P) w (6 - hr) k ≤ lim n - b then nI (nR (grp (m.1 48) P) w (6 - hr) k) else -9), m1, _, ?_, ?_, hin0.side (m' := gupA (gup m1 46 0 (nI 0)) 64 (lyF (grp (m.1 48) P) w ((gup m1 46 0 (nI 0)).1 64) (6 - hr))) e20 e21 (fun k hk => ?_) (fun k a1 a2 => ?_) (fun i a1 a2 a3 a4 a5 => ?_)⟩
    · show Go O (d + 40) kX6_fewest _ _ 0 [.ref 0, .int (nI n), .int (nI w), .null] [] m
      refine go_aload_n dX6_fewest_0 rfl ?_
      refine go_iload_n dX6_fewest_1 rfl ?_
      refine go_iload_n dX6_fewest_2 rfl ?_
      refine go_callV1 (K' := kX6_refusalOfPlan) [_, _] dX6_fewest_3 mX6_192 lX6_refusalOfPlan rfl (by decide) rfl (by decide) rfl rfl (Nat.le_of_ble_eq_true rfl) (Nat.le_of_ble_eq_true rfl) (c_refusal_29 hT t5 hP6 t6 hN3 t7 hl3) ?_
      refine go_istore_n (L' := [_, _, _, _]) dX6_fewest_6 (by decide) rfl ?_
      refine go_iload_n dX6_fewest_7 rfl ?_
      refine go_if_eq 15 dX6_fewest_8 (by decide) (fun h8 => ?_) (fun h => absurd (hz) h)
      refine go_aload_n dX6_fewest_15 rfl ?_
      refine go_iload_n dX6_fewest_16 rfl ?_
      refine go_iload_n dX6_fewest_17 rfl ?_
      refine go_callV1 (K' := kX6_leastTellings) [_, _] dX6_fewest_18 mX6_195 lX6_leastTellings rfl (by decide) rfl (by decide) rfl rfl (Nat.le_of_ble_eq_true rfl) (Nat.le_of_ble_eq_true rfl) (c1) ?_
      exact go_iret dX6_fewest_21 rfl rfl rfl
    · show Go O (d + 40) kX7_fewest _ _ 0 [.ref 46, .int (nI n), .int (nI w), .null] [] m1
      refine go_aload_n dX7_fewest_0 rfl ?_
      refine go_iconst (nI 0) dX7_fewest_1 (by decide +kernel) ?_
      refine go_puti dX7_fewest_2 fX7_77 rfl (by decide) (by decide) (by decide) rfl (fun _ _ _ h => by cases h; rfl) (Or.inl rfl) ?_
      refine go_aload_n dX7_fewest_5 rfl ?_
      refine go_iload_n dX7_fewest_6 rfl ?_
      refine go_iload_n dX7_fewest_7 rfl ?_
      refine go_callV1 (K' := kX7_noPlan) [_, _] dX7_fewest_8 mX7_194 lX7_noPlan rfl (by decide) rfl (by decide) rfl rfl (Nat.le_of_ble_eq_true rfl) (Nat.le_of_ble_eq_true rfl) (c_noPlan ((congrFun g46 4).trans hP) hP6 ((congrFun g46 5).trans hN) hN3 ((congrFun g46 6).trans hlw) hl3) ?_
      refine go_istore_n (L' := [_, _, _, _]) dX7_fewest_11 (by decide) rfl ?_
      refine go_iload_n dX7_fewest_12 rfl ?_
      refine go_if_eq 20 dX7_fewest_13 (by decide) (fun h13 => ?_) (fun h => absurd (hz) h)
      refine go_aload_n dX7_fewest_20 rfl ?_
      refine go_iload_n dX7_fewest_21 rfl ?_
      refine go_iload_n dX7_fewest_22 rfl ?_
      refine go_callV1 (K' := kX7_findFewest) [_, _] dX7_fewest_23 mX7_197 lX7_findFewest rfl (by decide) rfl (by decide) rfl rfl (Nat.le_of_ble_eq_true rfl) (Nat.le_of_ble_eq_true rfl) (c2) ?_
      exact go_iret dX7_fewest_26 rfl rfl rfl
    · rw [gupA_k _ _ (by omega), gup_k _ _ (by omega)]
      exact g k (by omega) (by omega)
    · rw [gupA_k _ _ (by omega), gup_k _ _ (by omega)]
      exact g k (by omega) (by omega)
    · rw [gupA_k _ _ (by omega), gup_i _ _ a1]
      exact congrFun g46 i
  · refine ⟨(rfP n x P N lw), m, gup m 46 0 (nI 0), ?_, ?_, hthr⟩
    · show Go O (d + 40) kX6_fewest _ _ 0 [.ref 0, .int n, .int x, .null] [] m
      refine go_aload_n dX6_fewest_0 rfl ?_
      refine go_iload_n dX6_fewest_1 rfl ?_
      refine go_iload_n dX6_fewest_2 rfl ?_
      refine go_callV1 (K' := kX6_refusalOfPlan) [_, _] dX6_fewest_3 mX6_192 lX6_refusalOfPlan rfl (by decide) rfl (by decide) rfl rfl (Nat.le_of_ble_eq_true rfl) (Nat.le_of_ble_eq_true rfl) (c_refusal_29 hT t5 hP6 t6 hN3 t7 hl3) ?_
      refine go_istore_n (L' := [_, _, _, _]) dX6_fewest_6 (by decide) rfl ?_
      refine go_iload_n dX6_fewest_7 rfl ?_
      refine go_if_eq 15 dX6_fewest_8 (by decide) (fun h => absurd h (hz)) (fun h8 => ?_)
      refine go_iload_n dX6_fewest_11 rfl ?_
      refine go_goto 21 dX6_fewest_12 (by decide) ?_
      exact go_iret dX6_fewest_21 rfl rfl rfl
    · show Go O (d + 40) kX7_fewest _ _ 0 [.ref 46, .int n, .int x, .null] [] m
      refine go_aload_n dX7_fewest_0 rfl ?_
      refine go_iconst (nI 0) dX7_fewest_1 (by decide +kernel) ?_
      refine go_puti dX7_fewest_2 fX7_77 rfl (by decide) (by decide) (by decide) rfl (fun _ _ _ h => by cases h; rfl) (Or.inl rfl) ?_
      refine go_aload_n dX7_fewest_5 rfl ?_
      refine go_iload_n dX7_fewest_6 rfl ?_
      refine go_iload_n dX7_fewest_7 rfl ?_
      refine go_callV1 (K' := kX7_noPlan) [_, _] dX7_fewest_8 mX7_194 lX7_noPlan rfl (by decide) rfl (by decide) rfl rfl (Nat.le_of_ble_eq_true rfl) (Nat.le_of_ble_eq_true rfl) (c_noPlan hP hP6 hN hN3 hlw hl3) ?_
      refine go_istore_n (L' := [_, _, _, _]) dX7_fewest_11 (by decide) rfl ?_
      refine go_iload_n dX7_fewest_12 rfl ?_
      refine go_if_eq 20 dX7_fewest_13 (by decide) (fun h => absurd h (hz)) (fun h13 => ?_)
      refine go_iload_n dX7_fewest_16 rfl ?_
      refine go_goto 26 dX7_fewest_17 (by decide) ?_
      exact go_iret dX7_fewest_26 rfl rfl rfl
theorem op_fewest_35 {O : gOm} {d : Nat} {m : gMem} {n x : Int32} (h0 : Inv m) (hT : m.2 0 = 35) : OpOk O (d + 40) kX6_fewest kX7_fewest [.int n, .int x] m := by
  have hthr := h0.thr
  have hin0 := h0
  obtain ⟨P, N, lw, hr, a, c, L, lim, h1, h2, h3, h4, h5, h6, h7, h8⟩ := h0
  obtain ⟨hP, hP6, hN, hN3, hlw, hl3, hw, hlim, hfs⟩ := id h2
  obtain ⟨t5, t6, t7, tp, tg, tn⟩ : IvT m 35 P N lw := hT ▸ h3
  obtain ⟨⟨s4, sk, st, sa, spl⟩, h11, ok1, ok2, ok3, ok4, ok5⟩ := id h4
  by_cases hz : rfP n x P N lw = 0
  · obtain ⟨⟨n, hnN, rfl⟩, ⟨w, hw2, rfl⟩, hl0⟩ := rfP_0 hz
    have e2 : 2 ^ P ≤ 64 := Nat.pow_le_pow_right (n := 2) (by omega) hP6
    obtain ⟨k, hk, ek⟩ := ok2 n (by omega)
    obtain ⟨b, hb, eb⟩ := ok4 n (by omega) hnN
    obtain ⟨l9, el⟩ := hlim n hnN
    obtain ⟨m1, c1, f1, -, -⟩ := c_least_35 (O := O) (d := d + 23) (m := m) (G := grp (m.1 48) P) (w := w) (h := hr) (k := k) (n := n) (a := lim n) (b := b) hT (by omega) (fun h a => grp_64 _ h a hP6) ok1 hk (by omega) tg s4 ((sk n (by omega)).trans ek) ((tn n hnN).1.trans el) (by rw [spl n 0 (by omega) (by omega), spl n 1 (by omega) (by omega), spl n 2 (by omega) (by omega), ok3 n (by omega)]; exact eb) hb l9
    have g : ∀ k, k ≠ 41 → k ≠ 42 → m1.1 k = m.1 k := fun k a1 a2 => (f1.2 k (by simp [a2])).trans (by unfold wtM_35; rw [gupA_k _ _ a2, gup_k _ _ a1]; rfl)
    have g46 := g 46 (by decide) (by decide)
    have g48 := g 48 (by decide) (by decide)
    have g49 := g 49 (by decide) (by decide)
    have g52 := g 52 (by decide) (by decide)
    have e20 : m1.2 0 = m.2 0 := (congrFun f1.1 0).trans rfl
    have e21 : m1.2 1 = m.2 1 := (congrFun f1.1 1).trans rfl
    have c2 := c_findFewest (O := O) (d := d + 35) (m := (gup m1 46 0 (nI 0))) (P := P) (w := w) (hr := hr) (n := n) (k := k) (a := lim n) (b := b) ((congrFun g46 4).trans hP) hP6 ((congrFun g46 11).trans h11) ok1 (by omega) (by omega) hk ((congrFun g52 _).trans ek) ((congrFun g49 _).trans el) ((congrFun g52 _).trans eb) hb l9
    rw [show (gup m1 46 0 (nI 0)).1 48 = m.1 48 from g48] at c2
    refine ⟨(if nR (grp (m.1 48) P) w (6 - hr) k ≤ lim n - b then nI (nR (grp (m.1 48) P) w (6 - hr) k) else -9), m1, _, ?_, ?_, hin0.side (m' := gupA (gup m1 46 0 (nI 0)) 64 (lyF (grp (m.1 48) P) w ((gup m1 46 0 (nI 0)).1 64) (6 - hr))) e20 e21 (fun k hk => ?_) (fun k a1 a2 => ?_) (fun i a1 a2 a3 a4 a5 => ?_)⟩
    · show Go O (d + 40) kX6_fewest _ _ 0 [.ref 0, .int (nI n), .int (nI w), .null] [] m
      refine go_aload_n dX6_fewest_0 rfl ?_
      refine go_iload_n dX6_fewest_1 rfl ?_
      refine go_iload_n dX6_fewest_2 rfl ?_
      refine go_callV1 (K' := kX6_refusalOfPlan) [_, _] dX6_fewest_3 mX6_192 lX6_refusalOfPlan rfl (by decide) rfl (by decide) rfl rfl (Nat.le_of_ble_eq_true rfl) (Nat.le_of_ble_eq_true rfl) (c_refusal_35 hT t5 hP6 t6 hN3 t7 hl3) ?_
      refine go_istore_n (L' := [_, _, _, _]) dX6_fewest_6 (by decide) rfl ?_
      refine go_iload_n dX6_fewest_7 rfl ?_
      refine go_if_eq 15 dX6_fewest_8 (by decide) (fun h8 => ?_) (fun h => absurd (hz) h)
      refine go_aload_n dX6_fewest_15 rfl ?_
      refine go_iload_n dX6_fewest_16 rfl ?_
      refine go_iload_n dX6_fewest_17 rfl ?_
      refine go_callV1 (K' := kX6_leastTellings) [_, _] dX6_fewest_18 mX6_195 lX6_leastTellings rfl (by decide) rfl (by decide) rfl rfl (Nat.le_of_ble_eq_true rfl) (Nat.le_of_ble_eq_true rfl) (c1) ?_
      exact go_iret dX6_fewest_21 rfl rfl rfl
    · show Go O (d + 40) kX7_fewest _ _ 0 [.ref 46, .int (nI n), .int (nI w), .null] [] m1
      refine go_aload_n dX7_fewest_0 rfl ?_
      refine go_iconst (nI 0) dX7_fewest_1 (by decide +kernel) ?_
      refine go_puti dX7_fewest_2 fX7_77 rfl (by decide) (by decide) (by decide) rfl (fun _ _ _ h => by cases h; rfl) (Or.inl rfl) ?_
      refine go_aload_n dX7_fewest_5 rfl ?_
      refine go_iload_n dX7_fewest_6 rfl ?_
      refine go_iload_n dX7_fewest_7 rfl ?_
      refine go_callV1 (K' := kX7_noPlan) [_, _] dX7_fewest_8 mX7_194 lX7_noPlan rfl (by decide) rfl (by decide) rfl rfl (Nat.le_of_ble_eq_true rfl) (Nat.le_of_ble_eq_true rfl) (c_noPlan ((congrFun g46 4).trans hP) hP6 ((congrFun g46 5).trans hN) hN3 ((congrFun g46 6).trans hlw) hl3) ?_
      refine go_istore_n (L' := [_, _, _, _]) dX7_fewest_11 (by decide) rfl ?_
      refine go_iload_n dX7_fewest_12 rfl ?_
      refine go_if_eq 20 dX7_fewest_13 (by decide) (fun h13 => ?_) (fun h => absurd (hz) h)
      refine go_aload_n dX7_fewest_20 rfl ?_
      refine go_iload_n dX7_fewest_21 rfl ?_
      refine go_iload_n dX7_fewest_22 rfl ?_
      refine go_callV1 (K' := kX7_findFewest) [_, _] dX7_fewest_23 mX7_197 lX7_findFewest rfl (by decide) rfl (by decide) rfl rfl (Nat.le_of_ble_eq_true rfl) (Nat.le_of_ble_eq_true rfl) (c2) ?_
      exact go_iret dX7_fewest_26 rfl rfl rfl
    · rw [gupA_k _ _ (by omega), gup_k _ _ (by omega)]
      exact g k (by omega) (by omega)
    · rw [gupA_k _ _ (by omega), gup_k _ _ (by omega)]
      exact g k (by omega) (by omega)
    · rw [gupA_k _ _ (by omega), gup_i _ _ a1]
      exact congrFun g46 i
  · refine ⟨(rfP n x P N lw), m, gup m 46 0 (nI 0), ?_, ?_, hthr⟩
    · show Go O (d + 40) kX6_fewest _ _ 0 [.ref 0, .int n, .int x, .null] [] m
      refine go_aload_n dX6_fewest_0 rfl ?_
      refine go_iload_n dX6_fewest_1 rfl ?_
      refine go_iload_n dX6_fewest_2 rfl ?_
      refine go_callV1 (K' := kX6_refusalOfPlan) [_, _] dX6_fewest_3 mX6_192 lX6_refusalOfPlan rfl (by decide) rfl (by decide) rfl rfl (Nat.le_of_ble_eq_true rfl) (Nat.le_of_ble_eq_true rfl) (c_refusal_35 hT t5 hP6 t6 hN3 t7 hl3) ?_
      refine go_istore_n (L' := [_, _, _, _]) dX6_fewest_6 (by decide) rfl ?_
      refine go_iload_n dX6_fewest_7 rfl ?_
      refine go_if_eq 15 dX6_fewest_8 (by decide) (fun h => absurd h (hz)) (fun h8 => ?_)
      refine go_iload_n dX6_fewest_11 rfl ?_
      refine go_goto 21 dX6_fewest_12 (by decide) ?_
      exact go_iret dX6_fewest_21 rfl rfl rfl
    · show Go O (d + 40) kX7_fewest _ _ 0 [.ref 46, .int n, .int x, .null] [] m
      refine go_aload_n dX7_fewest_0 rfl ?_
      refine go_iconst (nI 0) dX7_fewest_1 (by decide +kernel) ?_
      refine go_puti dX7_fewest_2 fX7_77 rfl (by decide) (by decide) (by decide) rfl (fun _ _ _ h => by cases h; rfl) (Or.inl rfl) ?_
      refine go_aload_n dX7_fewest_5 rfl ?_
      refine go_iload_n dX7_fewest_6 rfl ?_
      refine go_iload_n dX7_fewest_7 rfl ?_
      refine go_callV1 (K' := kX7_noPlan) [_, _] dX7_fewest_8 mX7_194 lX7_noPlan rfl (by decide) rfl (by decide) rfl rfl (Nat.le_of_ble_eq_true rfl) (Nat.le_of_ble_eq_true rfl) (c_noPlan hP hP6 hN hN3 hlw hl3) ?_
      refine go_istore_n (L' := [_, _, _, _]) dX7_fewest_11 (by decide) rfl ?_
      refine go_iload_n dX7_fewest_12 rfl ?_
      refine go_if_eq 20 dX7_fewest_13 (by decide) (fun h => absurd h (hz)) (fun h13 => ?_)
      refine go_iload_n dX7_fewest_16 rfl ?_
      refine go_goto 26 dX7_fewest_17 (by decide) ?_
      exact go_iret dX7_fewest_26 rfl rfl rfl
theorem iR_gt {x : Int32} {n : Nat} (hn : n < 2 ^ 30) (h : nI n < x) : iR x (n + 1) = false := by
  rw [Int32.lt_iff_toInt_lt, nI_toInt (by omega)] at h
  have z : ¬ x.toInt < (n + 1 : Nat) := by omega
  simp only [iR, z, decide_false, Bool.and_false]
theorem iR_ng {x : Int32} {n : Nat} (hn : n < 2 ^ 30) (h0 : ¬ x < 0) (h : ¬ nI n < x) : iR x (n + 1) = true := by
  rw [Int32.lt_iff_toInt_lt, Int32.toInt_zero] at h0
  rw [Int32.lt_iff_toInt_lt, nI_toInt (by omega)] at h
  have z1 : 0 ≤ x.toInt := by omega
  have z2 : x.toInt < (n + 1 : Nat) := by omega
  simp only [iR, z1, z2, decide_true, Bool.and_self]
theorem c_planLoop {O : gOm} {d : Nat} {m : gMem} {G : Nat → Nat → Nat} {P w hr n i0 : Nat} {no : Int32} (hP : m.1 46 4 = nI P) (hP6 : P ≤ 6) (hG : grp (m.1 48) P = G) (hh : m.1 46 11 = nI hr) (hi0 : hr + i0 < 6) (hA : ∀ h r k, h + r = 6 → hr ≤ h → k < 64 → m.1 64 (64 * h + k) = nI (nR G w r k)) : ∀ i c k x y z, c + i = i0 → k < 64 → nR G w (6 - (hr + c)) k < 99 → Go O (d + 3) kX7_planAt (some (.int (nI (plan G w i (5 - (hr + c)) k)))) m 67 [.ref 46, .int (nI n), .int (nI w), .int (nI i0), .int no, .int (nI k), x, .int (nI c), y, z] [] m := by
  have hg : ∀ h a, G h a < 64 := fun h a => by rw [← hG]; exact grp_64 _ h a hP6
  have inn : ∀ (res : Option Value) (r h k c S0 t0 : Nat), h + (r + 1) = 6 → hr ≤ h → k < 64 → S0 < 8 → bh (G h) S0 k = some t0 → pc6 S0 + nR G w r t0 = nR G w (r + 1) k → (∀ S, S < S0 → plB G w r k S = false) → Go O (d + 3) kX7_planAt res m 151 [.ref 46, .int (nI n), .int (nI w), .int (nI i0), .int no, .int (nI k), .int (nI S0), .int (nI c), .int (nI h), .int (nI t0)] [] m → ∀ q S, S + q = S0 → Go O (d + 3) kX7_planAt res m 89 [.ref 46, .int (nI n), .int (nI w), .int (nI i0), .int no, .int (nI k), .int (nI S), .int (nI c), .int (nI h), .int (oI (-9) (bh (G h) S k))] [] m := by
    intro res r h k c S0 t0 hr1 hh1 hk hS0 hb0 he hmin kk q
    have ek := hA h (r + 1) k hr1 hh1 hk
    have nk := nR_le G w (r + 1) k
    induction q with
    | zero =>
      intro S hS
      obtain rfl : S = S0 := by omega
      have ht := bh_lt hk (hg h) hb0
      have hS6 := pc6_le S
      have nt := nR_le G w r t0
      rw [hb0]
      show Go O (d + 3) kX7_planAt res m 89 [.ref 46, .int (nI n), .int (nI w), .int (nI i0), .int no, .int (nI k), .int (nI S), .int (nI c), .int (nI h), .int (nI t0)] [] m
      refine go_iload dX7_planAt_89 rfl ?_
      refine go_bipush (-9) dX7_planAt_91 (by decide +kernel) ?_
      refine go_icmp_eq 133 dX7_planAt_93 (by decide) (fun h => absurd h (nI_n9 (by omega))) (fun h93 => ?_)
      refine go_iload dX7_planAt_96 rfl ?_
      refine go_callS1 (K' := kX7_many) [_] dX7_planAt_98 mX7_143 lX7_many rfl rfl (Nat.le_of_ble_eq_true rfl) (Nat.le_of_ble_eq_true rfl) (c_many (by omega)) ?_
      refine go_aload_n dX7_planAt_101 rfl ?_
      refine go_getc dX7_planAt_102 fX7_62 rfl (by decide) (by decide) (by decide) rfl ?_
      refine go_bipush (nI 64) dX7_planAt_105 (by decide +kernel) ?_
      refine go_iload dX7_planAt_107 rfl ?_
      refine go_iconst (nI 1) dX7_planAt_109 (by decide +kernel) ?_
      first | refine go_iadd_n dX7_planAt_110 ?_ | refine go_iadd dX7_planAt_110 rfl ?_
      first | refine go_imul_n dX7_planAt_111 ?_ | refine go_imul dX7_planAt_111 rfl ?_
      refine go_iload dX7_planAt_112 rfl ?_
      first | refine go_iadd_n dX7_planAt_114 ?_ | refine go_iadd dX7_planAt_114 rfl ?_
      refine go_iald dX7_planAt_115 rfl (by decide) rfl (by omega) (by decide) (hA (h + 1) r t0 (by omega) (by omega) ht) ?_
      first | refine go_iadd_n dX7_planAt_116 ?_ | refine go_iadd dX7_planAt_116 rfl ?_
      refine go_aload_n dX7_planAt_117 rfl ?_
      refine go_getc dX7_planAt_118 fX7_62 rfl (by decide) (by decide) (by decide) rfl ?_
      refine go_bipush (nI 64) dX7_planAt_121 (by decide +kernel) ?_
      refine go_iload dX7_planAt_123 rfl ?_
      first | refine go_imul_n dX7_planAt_125 ?_ | refine go_imul dX7_planAt_125 rfl ?_
      refine go_iload dX7_planAt_126 rfl ?_
      first | refine go_iadd_n dX7_planAt_128 ?_ | refine go_iadd dX7_planAt_128 rfl ?_
      refine go_iald dX7_planAt_129 rfl (by decide) rfl (by omega) (by decide) ek ?_
      refine go_icmp_eq 151 dX7_planAt_130 (by decide) (fun h130 => ?_) (fun h => absurd (by rw [he]) h)
      exact kk
    | succ q ih =>
      intro S hS
      have cb := c_behind (O := O) (d := d) (m := m) (P := P) (h := h) (S := S + 1) (k := k) hP hP6 (by omega) (by omega) hk
      rw [hG] at cb
      have hp := hmin S (by omega)
      unfold plB at hp
      rw [show 5 - r = h by omega] at hp
      have nxt : ∀ z, Go O (d + 3) kX7_planAt res m 133 [.ref 46, .int (nI n), .int (nI w), .int (nI i0), .int no, .int (nI k), .int (nI S), .int (nI c), .int (nI h), z] [] m := by
        intro z
        refine go_iinc_n (L' := [_, _, _, _, _, _, _, _, _, _]) dX7_planAt_133 rfl (by decide) rfl ?_
        refine go_aload_n dX7_planAt_136 rfl ?_
        refine go_iload dX7_planAt_137 rfl ?_
        refine go_iload dX7_planAt_139 rfl ?_
        refine go_iload dX7_planAt_141 rfl ?_
        refine go_callV1 (K' := kX7_behind) [_, _, _] dX7_planAt_143 mX7_183 lX7_behind rfl (by decide) rfl (by decide) rfl rfl (Nat.le_of_ble_eq_true rfl) (Nat.le_of_ble_eq_true rfl) (cb) ?_
        refine go_istore (L' := [_, _, _, _, _, _, _, _, _, _]) dX7_planAt_146 (by decide) rfl ?_
        refine go_goto 89 dX7_planAt_148 (by decide) ?_
        exact ih (S + 1) (by omega)
      cases hb : bh (G h) S k with
      | none =>
        show Go O (d + 3) kX7_planAt res m 89 [.ref 46, .int (nI n), .int (nI w), .int (nI i0), .int no, .int (nI k), .int (nI S), .int (nI c), .int (nI h), .int (-9)] [] m
        refine go_iload dX7_planAt_89 rfl ?_
        refine go_bipush (-9) dX7_planAt_91 (by decide +kernel) ?_
        refine go_icmp_eq 133 dX7_planAt_93 (by decide) (fun h93 => ?_) (fun h => absurd (rfl) h)
        exact nxt _
      | some t1 =>
        rw [hb] at hp
        have ht := bh_lt hk (hg h) hb
        have hS6 := pc6_le S
        have nt := nR_le G w r t1
        have hne := of_decide_eq_false hp
        show Go O (d + 3) kX7_planAt res m 89 [.ref 46, .int (nI n), .int (nI w), .int (nI i0), .int no, .int (nI k), .int (nI S), .int (nI c), .int (nI h), .int (nI t1)] [] m
        refine go_iload dX7_planAt_89 rfl ?_
        refine go_bipush (-9) dX7_planAt_91 (by decide +kernel) ?_
        refine go_icmp_eq 133 dX7_planAt_93 (by decide) (fun h => absurd h (nI_n9 (by omega))) (fun h93 => ?_)
        refine go_iload dX7_planAt_96 rfl ?_
        refine go_callS1 (K' := kX7_many) [_] dX7_planAt_98 mX7_143 lX7_many rfl rfl (Nat.le_of_ble_eq_true rfl) (Nat.le_of_ble_eq_true rfl) (c_many (by omega)) ?_
        refine go_aload_n dX7_planAt_101 rfl ?_
        refine go_getc dX7_planAt_102 fX7_62 rfl (by decide) (by decide) (by decide) rfl ?_
        refine go_bipush (nI 64) dX7_planAt_105 (by decide +kernel) ?_
        refine go_iload dX7_planAt_107 rfl ?_
        refine go_iconst (nI 1) dX7_planAt_109 (by decide +kernel) ?_
        first | refine go_iadd_n dX7_planAt_110 ?_ | refine go_iadd dX7_planAt_110 rfl ?_
        first | refine go_imul_n dX7_planAt_111 ?_ | refine go_imul dX7_planAt_111 rfl ?_
        refine go_iload dX7_planAt_112 rfl ?_
        first | refine go_iadd_n dX7_planAt_114 ?_ | refine go_iadd dX7_planAt_114 rfl ?_
        refine go_iald dX7_planAt_115 rfl (by decide) rfl (by omega) (by decide) (hA (h + 1) r t1 (by omega) (by omega) ht) ?_
        first | refine go_iadd_n dX7_planAt_116 ?_ | refine go_iadd dX7_planAt_116 rfl ?_
        refine go_aload_n dX7_planAt_117 rfl ?_
        refine go_getc dX7_planAt_118 fX7_62 rfl (by decide) (by decide) (by decide) rfl ?_
        refine go_bipush (nI 64) dX7_planAt_121 (by decide +kernel) ?_
        refine go_iload dX7_planAt_123 rfl ?_
        first | refine go_imul_n dX7_planAt_125 ?_ | refine go_imul dX7_planAt_125 rfl ?_
        refine go_iload dX7_planAt_126 rfl ?_
        first | refine go_iadd_n dX7_planAt_128 ?_ | refine go_iadd dX7_planAt_128 rfl ?_
        refine go_iald dX7_planAt_129 rfl (by decide) rfl (by omega) (by decide) ek ?_
        refine go_icmp_eq 151 dX7_planAt_130 (by decide) (fun h => absurd h (fun q => hne ((nI_eq (by omega) (by omega)).mp q))) (fun h130 => ?_)
        exact nxt _
  intro i
  induction i with
  | zero =>
    intro c k x y z hc hk hv
    obtain ⟨r, hr1⟩ : ∃ r, hr + c + (r + 1) = 6 := ⟨5 - (hr + c), by omega⟩
    rw [show 6 - (hr + c) = r + 1 by omega] at hv
    rw [show 5 - (hr + c) = r by omega]
    obtain ⟨s1, ⟨t0, s2, s3⟩, s4⟩ := stp_ok hv
    rw [show 5 - r = hr + c by omega] at s2
    have kk : Go O (d + 3) kX7_planAt (some (.int (nI (plan G w 0 r k)))) m 151 [.ref 46, .int (nI n), .int (nI w), .int (nI i0), .int no, .int (nI k), .int (nI (stp G w r k)), .int (nI c), .int (nI (hr + c)), .int (nI t0)] [] m := by
      refine go_iload dX7_planAt_151 rfl ?_
      refine go_istore (L' := [_, _, _, _, _, _, _, _, _, _]) dX7_planAt_153 (by decide) rfl ?_
      refine go_iinc_n (L' := [_, _, _, _, _, _, _, _, _, _]) dX7_planAt_155 rfl (by decide) rfl ?_
      refine go_goto 67 dX7_planAt_158 (by decide) ?_
      refine go_iload dX7_planAt_67 rfl ?_
      refine go_iload_n dX7_planAt_69 rfl ?_
      refine go_icmp_gt 161 dX7_planAt_70 (by decide) (fun h70 => ?_) (fun h => absurd (nI_lt (by omega) (by omega)) h)
      refine go_iload dX7_planAt_161 rfl ?_
      exact go_iret dX7_planAt_163 rfl rfl rfl
    have g := inn _ r (hr + c) k c _ t0 hr1 (by omega) hk s1 s2 s3 s4 kk (stp G w r k) 0 (by omega)
    rw [bh_0] at g
    refine go_iload dX7_planAt_67 rfl ?_
    refine go_iload_n dX7_planAt_69 rfl ?_
    refine go_icmp_gt 161 dX7_planAt_70 (by decide) (fun h => absurd h (nI_nlt (by omega) (by omega))) (fun h70 => ?_)
    refine go_aload_n dX7_planAt_73 rfl ?_
    refine go_geti dX7_planAt_74 fX7_137 rfl (by decide) (by decide) (by decide) rfl hh ?_
    refine go_iload dX7_planAt_77 rfl ?_
    first | refine go_iadd_n dX7_planAt_79 ?_ | refine go_iadd dX7_planAt_79 rfl ?_
    refine go_istore (L' := [_, _, _, _, _, _, _, _, _, _]) dX7_planAt_80 (by decide) rfl ?_
    refine go_iconst (nI 0) dX7_planAt_82 (by decide +kernel) ?_
    refine go_istore (L' := [_, _, _, _, _, _, _, _, _, _]) dX7_planAt_83 (by decide) rfl ?_
    refine go_iload dX7_planAt_85 rfl ?_
    refine go_istore (L' := [_, _, _, _, _, _, _, _, _, _]) dX7_planAt_87 (by decide) rfl ?_
    exact g
  | succ i ih =>
    intro c k x y z hc hk hv
    obtain ⟨r, hr1⟩ : ∃ r, hr + c + (r + 1) = 6 := ⟨5 - (hr + c), by omega⟩
    rw [show 6 - (hr + c) = r + 1 by omega] at hv
    rw [show 5 - (hr + c) = r by omega]
    obtain ⟨s1, ⟨t0, s2, s3⟩, s4⟩ := stp_ok hv
    rw [show 5 - r = hr + c by omega] at s2
    have ht := bh_lt hk (hg _) s2
    have ep : plan G w (i + 1) r k = plan G w i (r - 1) t0 := by rw [plan, show 5 - r = hr + c by omega, s2]; rfl
    rw [ep]
    have hi := ih (c + 1) t0 (.int (nI (stp G w r k))) (.int (nI (hr + c))) (.int (nI t0)) (by omega) ht (by rw [show 6 - (hr + (c + 1)) = r by omega]; omega)
    rw [show 5 - (hr + (c + 1)) = r - 1 by omega] at hi
    have kk : Go O (d + 3) kX7_planAt (some (.int (nI (plan G w i (r - 1) t0)))) m 151 [.ref 46, .int (nI n), .int (nI w), .int (nI i0), .int no, .int (nI k), .int (nI (stp G w r k)), .int (nI c), .int (nI (hr + c)), .int (nI t0)] [] m := by
      refine go_iload dX7_planAt_151 rfl ?_
      refine go_istore (L' := [_, _, _, _, _, _, _, _, _, _]) dX7_planAt_153 (by decide) rfl ?_
      refine go_iinc_n (L' := [_, _, _, _, _, _, _, _, _, _]) dX7_planAt_155 rfl (by decide) rfl ?_
      refine go_goto 67 dX7_planAt_158 (by decide) ?_
      exact hi
    have g := inn _ r (hr + c) k c _ t0 hr1 (by omega) hk s1 s2 s3 s4 kk (stp G w r k) 0 (by omega)
    rw [bh_0] at g
    refine go_iload dX7_planAt_67 rfl ?_
    refine go_iload_n dX7_planAt_69 rfl ?_
    refine go_icmp_gt 161 dX7_planAt_70 (by decide) (fun h => absurd h (nI_nlt (by omega) (by omega))) (fun h70 => ?_)
    refine go_aload_n dX7_planAt_73 rfl ?_
    refine go_geti dX7_planAt_74 fX7_137 rfl (by decide) (by decide) (by decide) rfl hh ?_
    refine go_iload dX7_planAt_77 rfl ?_
    first | refine go_iadd_n dX7_planAt_79 ?_ | refine go_iadd dX7_planAt_79 rfl ?_
    refine go_istore (L' := [_, _, _, _, _, _, _, _, _, _]) dX7_planAt_80 (by decide) rfl ?_
    refine go_iconst (nI 0) dX7_planAt_82 (by decide +kernel) ?_
    refine go_istore (L' := [_, _, _, _, _, _, _, _, _, _]) dX7_planAt_83 (by decide) rfl ?_
    refine go_iload dX7_planAt_85 rfl ?_
    refine go_istore (L' := [_, _, _, _, _, _, _, _, _, _]) dX7_planAt_87 (by decide) rfl ?_
    exact g
theorem op_planAt_29 {O : gOm} {d : Nat} {m : gMem} {n x i : Int32} (h0 : Inv m) (hT : m.2 0 = 29) : OpOk O (d + 40) kX6_planAt kX7_planAt [.int n, .int x, .int i] m := by
  have hthr := h0.thr
  have hin0 := h0
  obtain ⟨P, N, lw, hr, a, c, L, lim, h1, h2, h3, h4, h5, h6, h7, h8⟩ := h0
  obtain ⟨hP, hP6, hN, hN3, hlw, hl3, hw, hlim, hfs⟩ := id h2
  obtain ⟨t5, t6, t7, tp, tg, tn⟩ : IvT m 29 P N lw := hT ▸ h3
  obtain ⟨⟨s4, sk, st, sa, spl⟩, h11, ok1, ok2, ok3, ok4, ok5⟩ := id h4
  by_cases hz : rfP n x P N lw = 0
  · obtain ⟨⟨n, hnN, rfl⟩, ⟨w, hw2, rfl⟩, hl0⟩ := rfP_0 hz
    have e2 : 2 ^ P ≤ 64 := Nat.pow_le_pow_right (n := 2) (by omega) hP6
    obtain ⟨k, hk, ek⟩ := ok2 n (by omega)
    obtain ⟨b, hb, eb⟩ := ok4 n (by omega) hnN
    obtain ⟨l9, el⟩ := hlim n hnN
    have ein : ∀ (d : Nat) (m : gMem), Ca O d kX7_in [.long i.toInt64, .long 0, .long (nI (5 - hr)).toInt64] (some (.int (bI (iR i (5 - hr + 1))))) m m := fun d m => by
      rw [← iR_in i (by omega), pk_sub (by omega)]
      exact c_in
    have e5 : nI 5 - nI hr = nI (5 - hr) := pk_sub (by omega)
    have fin : ∀ (m1 : gMem) (r : Int32) (m3 : gMem), (∀ k, k ≠ 41 → k ≠ 42 → m1.1 k = m.1 k) → m1.2 0 = m.2 0 → m1.2 1 = m.2 1 → Ca O (d + 40) kX6_planAt [.ref 0, .int (nI n), .int (nI w), .int i] (some (.int r)) m m1 → (iR i (5 - hr + 1) = false → r = -9) → (¬ nR (grp (m.1 48) P) w (6 - hr) k ≤ lim n - b → r = -9) → (nR (grp (m.1 48) P) w (6 - hr) k ≤ lim n - b → ∀ j, j < 5 - hr + 1 → i = nI j → r = nI (plan (grp (m.1 48) P) w j (5 - hr) k)) → OpOk O (d + 40) kX6_planAt kX7_planAt [.int (nI n), .int (nI w), .int i] m := by
      intro m1 r m3 g e20 e21 cX r1 r2 r3
      have g46 := g 46 (by decide) (by decide)
      have g48 := g 48 (by decide) (by decide)
      have g49 := g 49 (by decide) (by decide)
      have g52 := g 52 (by decide) (by decide)
      have c2 := c_findFewest (O := O) (d := d + 35) (m := (gup m1 46 0 (nI 0))) (P := P) (w := w) (hr := hr) (n := n) (k := k) (a := lim n) (b := b) ((congrFun g46 4).trans hP) hP6 ((congrFun g46 11).trans h11) ok1 (by omega) (by omega) hk ((congrFun g52 _).trans ek) ((congrFun g49 _).trans el) ((congrFun g52 _).trans eb) hb l9
      rw [show (gup m1 46 0 (nI 0)).1 48 = m.1 48 from g48] at c2
      refine ⟨r, m1, gupA (gup m1 46 0 (nI 0)) 64 (lyF (grp (m.1 48) P) w ((gup m1 46 0 (nI 0)).1 64) (6 - hr)), cX, ?_, hin0.side e20 e21 (fun k hk => ?_) (fun k a1 a2 => ?_) (fun i a1 a2 a3 a4 a5 => ?_)⟩
      · by_cases hle : nR (grp (m.1 48) P) w (6 - hr) k ≤ lim n - b
        · rw [if_pos hle] at c2
          cases hii : iR i (5 - hr + 1) with
          | false =>
            rw [r1 hii]
            show Go O (d + 40) kX7_planAt _ _ 0 [.ref 46, .int (nI n), .int (nI w), .int i, .null, .null, .null, .null, .null, .null] [] m1
            refine go_aload_n dX7_planAt_0 rfl ?_
            refine go_iconst (nI 0) dX7_planAt_1 (by decide +kernel) ?_
            refine go_puti dX7_planAt_2 fX7_77 rfl (by decide) (by decide) (by decide) rfl (fun _ _ _ h => by cases h; rfl) (Or.inl rfl) ?_
            refine go_aload_n dX7_planAt_5 rfl ?_
            refine go_iload_n dX7_planAt_6 rfl ?_
            refine go_iload_n dX7_planAt_7 rfl ?_
            refine go_callV1 (K' := kX7_noPlan) [_, _] dX7_planAt_8 mX7_194 lX7_noPlan rfl (by decide) rfl (by decide) rfl rfl (Nat.le_of_ble_eq_true rfl) (Nat.le_of_ble_eq_true rfl) (c_noPlan ((congrFun g46 4).trans hP) hP6 ((congrFun g46 5).trans hN) hN3 ((congrFun g46 6).trans hlw) hl3) ?_
            refine go_istore (L' := [_, _, _, _, _, _, _, _, _, _]) dX7_planAt_11 (by decide) rfl ?_
            refine go_iload dX7_planAt_13 rfl ?_
            refine go_if_eq 21 dX7_planAt_15 (by decide) (fun h15 => ?_) (fun h => absurd (hz) h)
            refine go_aload_n dX7_planAt_21 rfl ?_
            refine go_iload_n dX7_planAt_22 rfl ?_
            refine go_iload_n dX7_planAt_23 rfl ?_
            refine go_callV1 (K' := kX7_findFewest) [_, _] dX7_planAt_24 mX7_197 lX7_findFewest rfl (by decide) rfl (by decide) rfl rfl (Nat.le_of_ble_eq_true rfl) (Nat.le_of_ble_eq_true rfl) (c2) ?_
            refine go_bipush (-9) dX7_planAt_27 (by decide +kernel) ?_
            refine go_icmp_eq 48 dX7_planAt_29 (by decide) (fun h => absurd h (nI_n9 (by omega))) (fun h29 => ?_)
            refine go_iload_n dX7_planAt_32 rfl ?_
            refine go_i2l dX7_planAt_33 rfl ?_
            refine go_lconst 0 dX7_planAt_34 (by decide +kernel) ?_
            refine go_iconst (nI 5) dX7_planAt_35 (by decide +kernel) ?_
            refine go_aload_n dX7_planAt_36 rfl ?_
            refine go_geti dX7_planAt_37 fX7_137 rfl (by decide) (by decide) (by decide) rfl ((congrFun g46 11).trans h11) ?_
            refine go_isub dX7_planAt_40 e5 ?_
            refine go_i2l dX7_planAt_41 rfl ?_
            refine go_callS1 (K' := kX7_in) [_, _, _] dX7_planAt_42 mX7_84 lX7_in rfl rfl (Nat.le_of_ble_eq_true rfl) (Nat.le_of_ble_eq_true rfl) (ein _ _) ?_
            refine go_if_ne 51 dX7_planAt_45 (by decide) (fun h => absurd h (fun q => q (bI_0.mpr hii))) (fun h45 => ?_)
            refine go_bipush (-9) dX7_planAt_48 (by decide +kernel) ?_
            exact go_iret dX7_planAt_50 rfl rfl rfl
          | true =>
            obtain ⟨j, hj, ei⟩ := iR_of hii
            rw [r3 hle j hj ei]
            subst ei
            have lp := c_planLoop (O := O) (d := d + 37) (m := gupA (gup m1 46 0 (nI 0)) 64 (lyF (grp (m.1 48) P) w ((gup m1 46 0 (nI 0)).1 64) (6 - hr))) (G := grp (m.1 48) P) (P := P) (w := w) (hr := hr) (n := n) (i0 := j) (no := rfP (nI n) (nI w) P N lw) ((congrFun g46 4).trans hP) hP6 (by rw [gupA_k _ _ (by decide), gup_k _ _ (by decide), g48]) ((congrFun g46 11).trans h11) (by omega) (fun h r k a1 a2 a3 => by rw [gupA_s]; exact lyF_at a1 a3 (by omega) (by omega)) j 0 k (.int (nI 0)) .null .null (by omega) hk (by rw [Nat.add_zero]; omega)
            rw [Nat.add_zero] at lp
            show Go O (d + 40) kX7_planAt _ _ 0 [.ref 46, .int (nI n), .int (nI w), .int (nI j), .null, .null, .null, .null, .null, .null] [] m1
            refine go_aload_n dX7_planAt_0 rfl ?_
            refine go_iconst (nI 0) dX7_planAt_1 (by decide +kernel) ?_
            refine go_puti dX7_planAt_2 fX7_77 rfl (by decide) (by decide) (by decide) rfl (fun _ _ _ h => by cases h; rfl) (Or.inl rfl) ?_
            refine go_aload_n dX7_planAt_5 rfl ?_
            refine go_iload_n dX7_planAt_6 rfl ?_
            refine go_iload_n dX7_planAt_7 rfl ?_
            refine go_callV1 (K' := kX7_noPlan) [_, _] dX7_planAt_8 mX7_194 lX7_noPlan rfl (by decide) rfl (by decide) rfl rfl (Nat.le_of_ble_eq_true rfl) (Nat.le_of_ble_eq_true rfl) (c_noPlan ((congrFun g46 4).trans hP) hP6 ((congrFun g46 5).trans hN) hN3 ((congrFun g46 6).trans hlw) hl3) ?_
            refine go_istore (L' := [_, _, _, _, _, _, _, _, _, _]) dX7_planAt_11 (by decide) rfl ?_
            refine go_iload dX7_planAt_13 rfl ?_
            refine go_if_eq 21 dX7_planAt_15 (by decide) (fun h15 => ?_) (fun h => absurd (hz) h)
            refine go_aload_n dX7_planAt_21 rfl ?_
            refine go_iload_n dX7_planAt_22 rfl ?_
            refine go_iload_n dX7_planAt_23 rfl ?_
            refine go_callV1 (K' := kX7_findFewest) [_, _] dX7_planAt_24 mX7_197 lX7_findFewest rfl (by decide) rfl (by decide) rfl rfl (Nat.le_of_ble_eq_true rfl) (Nat.le_of_ble_eq_true rfl) (c2) ?_
            refine go_bipush (-9) dX7_planAt_27 (by decide +kernel) ?_
            refine go_icmp_eq 48 dX7_planAt_29 (by decide) (fun h => absurd h (nI_n9 (by omega))) (fun h29 => ?_)
            refine go_iload_n dX7_planAt_32 rfl ?_
            refine go_i2l dX7_planAt_33 rfl ?_
            refine go_lconst 0 dX7_planAt_34 (by decide +kernel) ?_
            refine go_iconst (nI 5) dX7_planAt_35 (by decide +kernel) ?_
            refine go_aload_n dX7_planAt_36 rfl ?_
            refine go_geti dX7_planAt_37 fX7_137 rfl (by decide) (by decide) (by decide) rfl ((congrFun g46 11).trans h11) ?_
            refine go_isub dX7_planAt_40 e5 ?_
            refine go_i2l dX7_planAt_41 rfl ?_
            refine go_callS1 (K' := kX7_in) [_, _, _] dX7_planAt_42 mX7_84 lX7_in rfl rfl (Nat.le_of_ble_eq_true rfl) (Nat.le_of_ble_eq_true rfl) (ein _ _) ?_
            refine go_if_ne 51 dX7_planAt_45 (by decide) (fun h45 => ?_) (fun h => absurd h (bI_n0.mpr hii))
            refine go_aload_n dX7_planAt_51 rfl ?_
            refine go_getc dX7_planAt_52 fX7_25 rfl (by decide) (by decide) (by decide) rfl ?_
            refine go_iconst (nI 3) dX7_planAt_55 (by decide +kernel) ?_
            refine go_iload_n dX7_planAt_56 rfl ?_
            first | refine go_iadd_n dX7_planAt_57 ?_ | refine go_iadd dX7_planAt_57 rfl ?_
            refine go_iald dX7_planAt_58 rfl (by decide) rfl (by omega) (by decide) ((congrFun g52 _).trans ek) ?_
            refine go_istore (L' := [_, _, _, _, _, _, _, _, _, _]) dX7_planAt_59 (by decide) rfl ?_
            refine go_iconst (nI 0) dX7_planAt_61 (by decide +kernel) ?_
            refine go_istore (L' := [_, _, _, _, _, _, _, _, _, _]) dX7_planAt_62 (by decide) rfl ?_
            refine go_iconst (nI 0) dX7_planAt_64 (by decide +kernel) ?_
            refine go_istore (L' := [_, _, _, _, _, _, _, _, _, _]) dX7_planAt_65 (by decide) rfl ?_
            exact lp
        · rw [if_neg hle] at c2
          rw [r2 hle]
          show Go O (d + 40) kX7_planAt _ _ 0 [.ref 46, .int (nI n), .int (nI w), .int i, .null, .null, .null, .null, .null, .null] [] m1
          refine go_aload_n dX7_planAt_0 rfl ?_
          refine go_iconst (nI 0) dX7_planAt_1 (by decide +kernel) ?_
          refine go_puti dX7_planAt_2 fX7_77 rfl (by decide) (by decide) (by decide) rfl (fun _ _ _ h => by cases h; rfl) (Or.inl rfl) ?_
          refine go_aload_n dX7_planAt_5 rfl ?_
          refine go_iload_n dX7_planAt_6 rfl ?_
          refine go_iload_n dX7_planAt_7 rfl ?_
          refine go_callV1 (K' := kX7_noPlan) [_, _] dX7_planAt_8 mX7_194 lX7_noPlan rfl (by decide) rfl (by decide) rfl rfl (Nat.le_of_ble_eq_true rfl) (Nat.le_of_ble_eq_true rfl) (c_noPlan ((congrFun g46 4).trans hP) hP6 ((congrFun g46 5).trans hN) hN3 ((congrFun g46 6).trans hlw) hl3) ?_
          refine go_istore (L' := [_, _, _, _, _, _, _, _, _, _]) dX7_planAt_11 (by decide) rfl ?_
          refine go_iload dX7_planAt_13 rfl ?_
          refine go_if_eq 21 dX7_planAt_15 (by decide) (fun h15 => ?_) (fun h => absurd (hz) h)
          refine go_aload_n dX7_planAt_21 rfl ?_
          refine go_iload_n dX7_planAt_22 rfl ?_
          refine go_iload_n dX7_planAt_23 rfl ?_
          refine go_callV1 (K' := kX7_findFewest) [_, _] dX7_planAt_24 mX7_197 lX7_findFewest rfl (by decide) rfl (by decide) rfl rfl (Nat.le_of_ble_eq_true rfl) (Nat.le_of_ble_eq_true rfl) (c2) ?_
          refine go_bipush (-9) dX7_planAt_27 (by decide +kernel) ?_
          refine go_icmp_eq 48 dX7_planAt_29 (by decide) (fun h29 => ?_) (fun h => absurd (rfl) h)
          refine go_bipush (-9) dX7_planAt_48 (by decide +kernel) ?_
          exact go_iret dX7_planAt_50 rfl rfl rfl
      · rw [gupA_k _ _ (by omega), gup_k _ _ (by omega)]
        exact g k (by omega) (by omega)
      · rw [gupA_k _ _ (by omega), gup_k _ _ (by omega)]
        exact g k (by omega) (by omega)
      · rw [gupA_k _ _ (by omega), gup_i _ _ a1]
        exact congrFun g46 i
    cases hii : iR i (5 - hr + 1) with
    | false =>
      refine fin m (-9) m (fun _ _ _ => rfl) rfl rfl ?_ (fun _ => rfl) (fun _ => rfl) (fun _ j hj ej => absurd hii (by rw [ej, iR_nI hj (by omega)]; decide))
      show Go O (d + 40) kX6_planAt _ _ 0 [.ref 0, .int (nI n), .int (nI w), .int i, .null] [] m
      refine go_aload_n dX6_planAt_0 rfl ?_
      refine go_iload_n dX6_planAt_1 rfl ?_
      refine go_iload_n dX6_planAt_2 rfl ?_
      refine go_callV1 (K' := kX6_refusalOfPlan) [_, _] dX6_planAt_3 mX6_192 lX6_refusalOfPlan rfl (by decide) rfl (by decide) rfl rfl (Nat.le_of_ble_eq_true rfl) (Nat.le_of_ble_eq_true rfl) (c_refusal_29 hT t5 hP6 t6 hN3 t7 hl3) ?_
      refine go_istore (L' := [_, _, _, _, _]) dX6_planAt_6 (by decide) rfl ?_
      refine go_iload dX6_planAt_8 rfl ?_
      refine go_if_eq 16 dX6_planAt_10 (by decide) (fun h10 => ?_) (fun h => absurd (hz) h)
      refine go_iload_n dX6_planAt_16 rfl ?_
      refine go_if_lt 44 dX6_planAt_17 (by decide) (fun h17 => ?_) (fun h17 => ?_)
      · refine go_bipush (-9) dX6_planAt_44 (by decide +kernel) ?_
        exact go_iret dX6_planAt_46 rfl rfl rfl
      · refine go_iload_n dX6_planAt_20 rfl ?_
        refine go_iconst (nI 5) dX6_planAt_21 (by decide +kernel) ?_
        refine go_aload_n dX6_planAt_22 rfl ?_
        refine go_getc dX6_planAt_23 fX6_19 rfl (by decide) (by decide) (by decide) rfl ?_
        refine go_geti dX6_planAt_26 fX6_94 rfl (by decide) (by decide) (by decide) rfl s4 ?_
        refine go_isub dX6_planAt_29 e5 ?_
        refine go_icmp_gt 44 dX6_planAt_30 (by decide) (fun h30 => ?_) (fun h => absurd (by
          rcases Classical.em (nI (5 - hr) < i) with z | z
          · exact z
          · exact absurd (iR_ng (by omega) h17 z) (by rw [hii]; decide)) h)
        refine go_bipush (-9) dX6_planAt_44 (by decide +kernel) ?_
        exact go_iret dX6_planAt_46 rfl rfl rfl
    | true =>
      obtain ⟨j, hj, ei⟩ := iR_of hii
      subst ei
      obtain ⟨m1, c1, f1, o1, o2⟩ := c_least_29 (O := O) (d := d + 23) (m := m) (G := grp (m.1 48) P) (w := w) (h := hr) (k := k) (n := n) (a := lim n) (b := b) hT (by omega) (fun h a => grp_64 _ h a hP6) ok1 hk (by omega) tg s4 ((sk n (by omega)).trans ek) ((tn n hnN).1.trans el) (by rw [spl n 0 (by omega) (by omega), spl n 1 (by omega) (by omega), spl n 2 (by omega) (by omega), ok3 n (by omega)]; exact eb) hb l9
      have g : ∀ k, k ≠ 41 → k ≠ 42 → m1.1 k = m.1 k := fun k a1 a2 => (f1.2 k (by simp [a2])).trans (by unfold wtM_29; rw [gupA_k _ _ a2, gup_k _ _ a1]; rfl)
      have e20 : m1.2 0 = m.2 0 := (congrFun f1.1 0).trans rfl
      have e21 : m1.2 1 = m.2 1 := (congrFun f1.1 1).trans rfl
      have g3 := g 3 (by decide) (by decide)
      have g4 := g 4 (by decide) (by decide)
      by_cases hle : nR (grp (m.1 48) P) w (6 - hr) k ≤ lim n - b
      · rw [if_pos hle] at c1
        obtain ⟨m2, c2, f2⟩ := c_planned_29 (O := O) (d := d + 23) (m := m1) (G := grp (m.1 48) P) (w := w) (by omega) (fun h a => grp_64 _ h a hP6) (h0 := hr) (i0 := j) (k0 := k) (by omega) hk o1 o2 (by omega)
        refine fin m2 (nI (plan (grp (m.1 48) P) w j (5 - hr) k)) m (fun k a1 a2 => (f2.2 k (by simp [a2])).trans (g k a1 a2)) ((congrFun f2.1 0).trans e20) ((congrFun f2.1 1).trans e21) ?_ (fun q => absurd hii (by rw [q]; decide)) (fun q => absurd hle q) (fun _ j' hj' ej => by rw [(nI_eq (by omega) (by omega)).mp ej])
        show Go O (d + 40) kX6_planAt _ _ 0 [.ref 0, .int (nI n), .int (nI w), .int (nI j), .null] [] m
        refine go_aload_n dX6_planAt_0 rfl ?_
        refine go_iload_n dX6_planAt_1 rfl ?_
        refine go_iload_n dX6_planAt_2 rfl ?_
        refine go_callV1 (K' := kX6_refusalOfPlan) [_, _] dX6_planAt_3 mX6_192 lX6_refusalOfPlan rfl (by decide) rfl (by decide) rfl rfl (Nat.le_of_ble_eq_true rfl) (Nat.le_of_ble_eq_true rfl) (c_refusal_29 hT t5 hP6 t6 hN3 t7 hl3) ?_
        refine go_istore (L' := [_, _, _, _, _]) dX6_planAt_6 (by decide) rfl ?_
        refine go_iload dX6_planAt_8 rfl ?_
        refine go_if_eq 16 dX6_planAt_10 (by decide) (fun h10 => ?_) (fun h => absurd (hz) h)
        refine go_iload_n dX6_planAt_16 rfl ?_
        refine go_if_lt 44 dX6_planAt_17 (by decide) (fun h => absurd h (nI_pos (by omega))) (fun h17 => ?_)
        refine go_iload_n dX6_planAt_20 rfl ?_
        refine go_iconst (nI 5) dX6_planAt_21 (by decide +kernel) ?_
        refine go_aload_n dX6_planAt_22 rfl ?_
        refine go_getc dX6_planAt_23 fX6_19 rfl (by decide) (by decide) (by decide) rfl ?_
        refine go_geti dX6_planAt_26 fX6_94 rfl (by decide) (by decide) (by decide) rfl s4 ?_
        refine go_isub dX6_planAt_29 e5 ?_
        refine go_icmp_gt 44 dX6_planAt_30 (by decide) (fun h => absurd h (nI_nlt (by omega) (by omega))) (fun h30 => ?_)
        refine go_aload_n dX6_planAt_33 rfl ?_
        refine go_iload_n dX6_planAt_34 rfl ?_
        refine go_iload_n dX6_planAt_35 rfl ?_
        refine go_callV1 (K' := kX6_leastTellings) [_, _] dX6_planAt_36 mX6_195 lX6_leastTellings rfl (by decide) rfl (by decide) rfl rfl (Nat.le_of_ble_eq_true rfl) (Nat.le_of_ble_eq_true rfl) (c1) ?_
        refine go_bipush (-9) dX6_planAt_39 (by decide +kernel) ?_
        refine go_icmp_ne 47 dX6_planAt_41 (by decide) (fun h41 => ?_) (fun h => absurd h (nI_n9 (by omega)))
        refine go_aload_n dX6_planAt_47 rfl ?_
        refine go_getc dX6_planAt_48 fX6_59 rfl (by decide) (by decide) (by decide) rfl ?_
        refine go_aload_n dX6_planAt_51 rfl ?_
        refine go_getc dX6_planAt_52 fX6_19 rfl (by decide) (by decide) (by decide) rfl ?_
        refine go_geti dX6_planAt_55 fX6_94 rfl (by decide) (by decide) (by decide) rfl ((congrFun g3 4).trans s4) ?_
        refine go_aload_n dX6_planAt_58 rfl ?_
        refine go_getc dX6_planAt_59 fX6_19 rfl (by decide) (by decide) (by decide) rfl ?_
        refine go_getc dX6_planAt_62 fX6_130 rfl (by decide) (by decide) (by decide) rfl ?_
        refine go_iload_n dX6_planAt_65 rfl ?_
        refine go_iald dX6_planAt_66 rfl (by decide) rfl (by omega) (by decide) ((congrFun g4 n).trans ((sk n (by omega)).trans ek)) ?_
        refine go_iload_n dX6_planAt_67 rfl ?_
        refine go_callV1 (K' := kX2_planned) [_, _, _] dX6_planAt_68 mX6_198 lX2_planned rfl (by decide) rfl (by decide) rfl rfl (Nat.le_of_ble_eq_true rfl) (Nat.le_of_ble_eq_true rfl) (c2) ?_
        exact go_iret dX6_planAt_71 rfl rfl rfl
      · rw [if_neg hle] at c1
        refine fin m1 (-9) m g e20 e21 ?_ (fun _ => rfl) (fun _ => rfl) (fun q => absurd q hle)
        show Go O (d + 40) kX6_planAt _ _ 0 [.ref 0, .int (nI n), .int (nI w), .int (nI j), .null] [] m
        refine go_aload_n dX6_planAt_0 rfl ?_
        refine go_iload_n dX6_planAt_1 rfl ?_
        refine go_iload_n dX6_planAt_2 rfl ?_
        refine go_callV1 (K' := kX6_refusalOfPlan) [_, _] dX6_planAt_3 mX6_192 lX6_refusalOfPlan rfl (by decide) rfl (by decide) rfl rfl (Nat.le_of_ble_eq_true rfl) (Nat.le_of_ble_eq_true rfl) (c_refusal_29 hT t5 hP6 t6 hN3 t7 hl3) ?_
        refine go_istore (L' := [_, _, _, _, _]) dX6_planAt_6 (by decide) rfl ?_
        refine go_iload dX6_planAt_8 rfl ?_
        refine go_if_eq 16 dX6_planAt_10 (by decide) (fun h10 => ?_) (fun h => absurd (hz) h)
        refine go_iload_n dX6_planAt_16 rfl ?_
        refine go_if_lt 44 dX6_planAt_17 (by decide) (fun h => absurd h (nI_pos (by omega))) (fun h17 => ?_)
        refine go_iload_n dX6_planAt_20 rfl ?_
        refine go_iconst (nI 5) dX6_planAt_21 (by decide +kernel) ?_
        refine go_aload_n dX6_planAt_22 rfl ?_
        refine go_getc dX6_planAt_23 fX6_19 rfl (by decide) (by decide) (by decide) rfl ?_
        refine go_geti dX6_planAt_26 fX6_94 rfl (by decide) (by decide) (by decide) rfl s4 ?_
        refine go_isub dX6_planAt_29 e5 ?_
        refine go_icmp_gt 44 dX6_planAt_30 (by decide) (fun h => absurd h (nI_nlt (by omega) (by omega))) (fun h30 => ?_)
        refine go_aload_n dX6_planAt_33 rfl ?_
        refine go_iload_n dX6_planAt_34 rfl ?_
        refine go_iload_n dX6_planAt_35 rfl ?_
        refine go_callV1 (K' := kX6_leastTellings) [_, _] dX6_planAt_36 mX6_195 lX6_leastTellings rfl (by decide) rfl (by decide) rfl rfl (Nat.le_of_ble_eq_true rfl) (Nat.le_of_ble_eq_true rfl) (c1) ?_
        refine go_bipush (-9) dX6_planAt_39 (by decide +kernel) ?_
        refine go_icmp_ne 47 dX6_planAt_41 (by decide) (fun h => absurd h (fun q => q rfl)) (fun h41 => ?_)
        refine go_bipush (-9) dX6_planAt_44 (by decide +kernel) ?_
        exact go_iret dX6_planAt_46 rfl rfl rfl
  · refine ⟨(rfP n x P N lw), m, gup m 46 0 (nI 0), ?_, ?_, hthr⟩
    · show Go O (d + 40) kX6_planAt _ _ 0 [.ref 0, .int n, .int x, .int i, .null] [] m
      refine go_aload_n dX6_planAt_0 rfl ?_
      refine go_iload_n dX6_planAt_1 rfl ?_
      refine go_iload_n dX6_planAt_2 rfl ?_
      refine go_callV1 (K' := kX6_refusalOfPlan) [_, _] dX6_planAt_3 mX6_192 lX6_refusalOfPlan rfl (by decide) rfl (by decide) rfl rfl (Nat.le_of_ble_eq_true rfl) (Nat.le_of_ble_eq_true rfl) (c_refusal_29 hT t5 hP6 t6 hN3 t7 hl3) ?_
      refine go_istore (L' := [_, _, _, _, _]) dX6_planAt_6 (by decide) rfl ?_
      refine go_iload dX6_planAt_8 rfl ?_
      refine go_if_eq 16 dX6_planAt_10 (by decide) (fun h => absurd h (hz)) (fun h10 => ?_)
      refine go_iload dX6_planAt_13 rfl ?_
      exact go_iret dX6_planAt_15 rfl rfl rfl
    · show Go O (d + 40) kX7_planAt _ _ 0 [.ref 46, .int n, .int x, .int i, .null, .null, .null, .null, .null, .null] [] m
      refine go_aload_n dX7_planAt_0 rfl ?_
      refine go_iconst (nI 0) dX7_planAt_1 (by decide +kernel) ?_
      refine go_puti dX7_planAt_2 fX7_77 rfl (by decide) (by decide) (by decide) rfl (fun _ _ _ h => by cases h; rfl) (Or.inl rfl) ?_
      refine go_aload_n dX7_planAt_5 rfl ?_
      refine go_iload_n dX7_planAt_6 rfl ?_
      refine go_iload_n dX7_planAt_7 rfl ?_
      refine go_callV1 (K' := kX7_noPlan) [_, _] dX7_planAt_8 mX7_194 lX7_noPlan rfl (by decide) rfl (by decide) rfl rfl (Nat.le_of_ble_eq_true rfl) (Nat.le_of_ble_eq_true rfl) (c_noPlan hP hP6 hN hN3 hlw hl3) ?_
      refine go_istore (L' := [_, _, _, _, _, _, _, _, _, _]) dX7_planAt_11 (by decide) rfl ?_
      refine go_iload dX7_planAt_13 rfl ?_
      refine go_if_eq 21 dX7_planAt_15 (by decide) (fun h => absurd h (hz)) (fun h15 => ?_)
      refine go_iload dX7_planAt_18 rfl ?_
      exact go_iret dX7_planAt_20 rfl rfl rfl
theorem op_planAt_35 {O : gOm} {d : Nat} {m : gMem} {n x i : Int32} (h0 : Inv m) (hT : m.2 0 = 35) : OpOk O (d + 40) kX6_planAt kX7_planAt [.int n, .int x, .int i] m := by
  have hthr := h0.thr
  have hin0 := h0
  obtain ⟨P, N, lw, hr, a, c, L, lim, h1, h2, h3, h4, h5, h6, h7, h8⟩ := h0
  obtain ⟨hP, hP6, hN, hN3, hlw, hl3, hw, hlim, hfs⟩ := id h2
  obtain ⟨t5, t6, t7, tp, tg, tn⟩ : IvT m 35 P N lw := hT ▸ h3
  obtain ⟨⟨s4, sk, st, sa, spl⟩, h11, ok1, ok2, ok3, ok4, ok5⟩ := id h4
  by_cases hz : rfP n x P N lw = 0
  · obtain ⟨⟨n, hnN, rfl⟩, ⟨w, hw2, rfl⟩, hl0⟩ := rfP_0 hz
    have e2 : 2 ^ P ≤ 64 := Nat.pow_le_pow_right (n := 2) (by omega) hP6
    obtain ⟨k, hk, ek⟩ := ok2 n (by omega)
    obtain ⟨b, hb, eb⟩ := ok4 n (by omega) hnN
    obtain ⟨l9, el⟩ := hlim n hnN
    have ein : ∀ (d : Nat) (m : gMem), Ca O d kX7_in [.long i.toInt64, .long 0, .long (nI (5 - hr)).toInt64] (some (.int (bI (iR i (5 - hr + 1))))) m m := fun d m => by
      rw [← iR_in i (by omega), pk_sub (by omega)]
      exact c_in
    have e5 : nI 5 - nI hr = nI (5 - hr) := pk_sub (by omega)
    have fin : ∀ (m1 : gMem) (r : Int32) (m3 : gMem), (∀ k, k ≠ 41 → k ≠ 42 → m1.1 k = m.1 k) → m1.2 0 = m.2 0 → m1.2 1 = m.2 1 → Ca O (d + 40) kX6_planAt [.ref 0, .int (nI n), .int (nI w), .int i] (some (.int r)) m m1 → (iR i (5 - hr + 1) = false → r = -9) → (¬ nR (grp (m.1 48) P) w (6 - hr) k ≤ lim n - b → r = -9) → (nR (grp (m.1 48) P) w (6 - hr) k ≤ lim n - b → ∀ j, j < 5 - hr + 1 → i = nI j → r = nI (plan (grp (m.1 48) P) w j (5 - hr) k)) → OpOk O (d + 40) kX6_planAt kX7_planAt [.int (nI n), .int (nI w), .int i] m := by
      intro m1 r m3 g e20 e21 cX r1 r2 r3
      have g46 := g 46 (by decide) (by decide)
      have g48 := g 48 (by decide) (by decide)
      have g49 := g 49 (by decide) (by decide)
      have g52 := g 52 (by decide) (by decide)
      have c2 := c_findFewest (O := O) (d := d + 35) (m := (gup m1 46 0 (nI 0))) (P := P) (w := w) (hr := hr) (n := n) (k := k) (a := lim n) (b := b) ((congrFun g46 4).trans hP) hP6 ((congrFun g46 11).trans h11) ok1 (by omega) (by omega) hk ((congrFun g52 _).trans ek) ((congrFun g49 _).trans el) ((congrFun g52 _).trans eb) hb l9
      rw [show (gup m1 46 0 (nI 0)).1 48 = m.1 48 from g48] at c2
      refine ⟨r, m1, gupA (gup m1 46 0 (nI 0)) 64 (lyF (grp (m.1 48) P) w ((gup m1 46 0 (nI 0)).1 64) (6 - hr)), cX, ?_, hin0.side e20 e21 (fun k hk => ?_) (fun k a1 a2 => ?_) (fun i a1 a2 a3 a4 a5 => ?_)⟩
      · by_cases hle : nR (grp (m.1 48) P) w (6 - hr) k ≤ lim n - b
        · rw [if_pos hle] at c2
          cases hii : iR i (5 - hr + 1) with
          | false =>
            rw [r1 hii]
            show Go O (d + 40) kX7_planAt _ _ 0 [.ref 46, .int (nI n), .int (nI w), .int i, .null, .null, .null, .null, .null, .null] [] m1
            refine go_aload_n dX7_planAt_0 rfl ?_
            refine go_iconst (nI 0) dX7_planAt_1 (by decide +kernel) ?_
            refine go_puti dX7_planAt_2 fX7_77 rfl (by decide) (by decide) (by decide) rfl (fun _ _ _ h => by cases h; rfl) (Or.inl rfl) ?_
            refine go_aload_n dX7_planAt_5 rfl ?_
            refine go_iload_n dX7_planAt_6 rfl ?_
            refine go_iload_n dX7_planAt_7 rfl ?_
            refine go_callV1 (K' := kX7_noPlan) [_, _] dX7_planAt_8 mX7_194 lX7_noPlan rfl (by decide) rfl (by decide) rfl rfl (Nat.le_of_ble_eq_true rfl) (Nat.le_of_ble_eq_true rfl) (c_noPlan ((congrFun g46 4).trans hP) hP6 ((congrFun g46 5).trans hN) hN3 ((congrFun g46 6).trans hlw) hl3) ?_
            refine go_istore (L' := [_, _, _, _, _, _, _, _, _, _]) dX7_planAt_11 (by decide) rfl ?_
            refine go_iload dX7_planAt_13 rfl ?_
            refine go_if_eq 21 dX7_planAt_15 (by decide) (fun h15 => ?_) (fun h => absurd (hz) h)
            refine go_aload_n dX7_planAt_21 rfl ?_
            refine go_iload_n dX7_planAt_22 rfl ?_
            refine go_iload_n dX7_planAt_23 rfl ?_
            refine go_callV1 (K' := kX7_findFewest) [_, _] dX7_planAt_24 mX7_197 lX7_findFewest rfl (by decide) rfl (by decide) rfl rfl (Nat.le_of_ble_eq_true rfl) (Nat.le_of_ble_eq_true rfl) (c2) ?_
            refine go_bipush (-9) dX7_planAt_27 (by decide +kernel) ?_
            refine go_icmp_eq 48 dX7_planAt_29 (by decide) (fun h => absurd h (nI_n9 (by omega))) (fun h29 => ?_)
            refine go_iload_n dX7_planAt_32 rfl ?_
            refine go_i2l dX7_planAt_33 rfl ?_
            refine go_lconst 0 dX7_planAt_34 (by decide +kernel) ?_
            refine go_iconst (nI 5) dX7_planAt_35 (by decide +kernel) ?_
            refine go_aload_n dX7_planAt_36 rfl ?_
            refine go_geti dX7_planAt_37 fX7_137 rfl (by decide) (by decide) (by decide) rfl ((congrFun g46 11).trans h11) ?_
            refine go_isub dX7_planAt_40 e5 ?_
            refine go_i2l dX7_planAt_41 rfl ?_
            refine go_callS1 (K' := kX7_in) [_, _, _] dX7_planAt_42 mX7_84 lX7_in rfl rfl (Nat.le_of_ble_eq_true rfl) (Nat.le_of_ble_eq_true rfl) (ein _ _) ?_
            refine go_if_ne 51 dX7_planAt_45 (by decide) (fun h => absurd h (fun q => q (bI_0.mpr hii))) (fun h45 => ?_)
            refine go_bipush (-9) dX7_planAt_48 (by decide +kernel) ?_
            exact go_iret dX7_planAt_50 rfl rfl rfl
          | true =>
            obtain ⟨j, hj, ei⟩ := iR_of hii
            rw [r3 hle j hj ei]
            subst ei
            have lp := c_planLoop (O := O) (d := d + 37) (m := gupA (gup m1 46 0 (nI 0)) 64 (lyF (grp (m.1 48) P) w ((gup m1 46 0 (nI 0)).1 64) (6 - hr))) (G := grp (m.1 48) P) (P := P) (w := w) (hr := hr) (n := n) (i0 := j) (no := rfP (nI n) (nI w) P N lw) ((congrFun g46 4).trans hP) hP6 (by rw [gupA_k _ _ (by decide), gup_k _ _ (by decide), g48]) ((congrFun g46 11).trans h11) (by omega) (fun h r k a1 a2 a3 => by rw [gupA_s]; exact lyF_at a1 a3 (by omega) (by omega)) j 0 k (.int (nI 0)) .null .null (by omega) hk (by rw [Nat.add_zero]; omega)
            rw [Nat.add_zero] at lp
            show Go O (d + 40) kX7_planAt _ _ 0 [.ref 46, .int (nI n), .int (nI w), .int (nI j), .null, .null, .null, .null, .null, .null] [] m1
            refine go_aload_n dX7_planAt_0 rfl ?_
            refine go_iconst (nI 0) dX7_planAt_1 (by decide +kernel) ?_
            refine go_puti dX7_planAt_2 fX7_77 rfl (by decide) (by decide) (by decide) rfl (fun _ _ _ h => by cases h; rfl) (Or.inl rfl) ?_
            refine go_aload_n dX7_planAt_5 rfl ?_
            refine go_iload_n dX7_planAt_6 rfl ?_
            refine go_iload_n dX7_planAt_7 rfl ?_
            refine go_callV1 (K' := kX7_noPlan) [_, _] dX7_planAt_8 mX7_194 lX7_noPlan rfl (by decide) rfl (by decide) rfl rfl (Nat.le_of_ble_eq_true rfl) (Nat.le_of_ble_eq_true rfl) (c_noPlan ((congrFun g46 4).trans hP) hP6 ((congrFun g46 5).trans hN) hN3 ((congrFun g46 6).trans hlw) hl3) ?_
            refine go_istore (L' := [_, _, _, _, _, _, _, _, _, _]) dX7_planAt_11 (by decide) rfl ?_
            refine go_iload dX7_planAt_13 rfl ?_
            refine go_if_eq 21 dX7_planAt_15 (by decide) (fun h15 => ?_) (fun h => absurd (hz) h)
            refine go_aload_n dX7_planAt_21 rfl ?_
            refine go_iload_n dX7_planAt_22 rfl ?_
            refine go_iload_n dX7_planAt_23 rfl ?_
            refine go_callV1 (K' := kX7_findFewest) [_, _] dX7_planAt_24 mX7_197 lX7_findFewest rfl (by decide) rfl (by decide) rfl rfl (Nat.le_of_ble_eq_true rfl) (Nat.le_of_ble_eq_true rfl) (c2) ?_
            refine go_bipush (-9) dX7_planAt_27 (by decide +kernel) ?_
            refine go_icmp_eq 48 dX7_planAt_29 (by decide) (fun h => absurd h (nI_n9 (by omega))) (fun h29 => ?_)
            refine go_iload_n dX7_planAt_32 rfl ?_
            refine go_i2l dX7_planAt_33 rfl ?_
            refine go_lconst 0 dX7_planAt_34 (by decide +kernel) ?_
            refine go_iconst (nI 5) dX7_planAt_35 (by decide +kernel) ?_
            refine go_aload_n dX7_planAt_36 rfl ?_
            refine go_geti dX7_planAt_37 fX7_137 rfl (by decide) (by decide) (by decide) rfl ((congrFun g46 11).trans h11) ?_
            refine go_isub dX7_planAt_40 e5 ?_
            refine go_i2l dX7_planAt_41 rfl ?_
            refine go_callS1 (K' := kX7_in) [_, _, _] dX7_planAt_42 mX7_84 lX7_in rfl rfl (Nat.le_of_ble_eq_true rfl) (Nat.le_of_ble_eq_true rfl) (ein _ _) ?_
            refine go_if_ne 51 dX7_planAt_45 (by decide) (fun h45 => ?_) (fun h => absurd h (bI_n0.mpr hii))
            refine go_aload_n dX7_planAt_51 rfl ?_
            refine go_getc dX7_planAt_52 fX7_25 rfl (by decide) (by decide) (by decide) rfl ?_
            refine go_iconst (nI 3) dX7_planAt_55 (by decide +kernel) ?_
            refine go_iload_n dX7_planAt_56 rfl ?_
            first | refine go_iadd_n dX7_planAt_57 ?_ | refine go_iadd dX7_planAt_57 rfl ?_
            refine go_iald dX7_planAt_58 rfl (by decide) rfl (by omega) (by decide) ((congrFun g52 _).trans ek) ?_
            refine go_istore (L' := [_, _, _, _, _, _, _, _, _, _]) dX7_planAt_59 (by decide) rfl ?_
            refine go_iconst (nI 0) dX7_planAt_61 (by decide +kernel) ?_
            refine go_istore (L' := [_, _, _, _, _, _, _, _, _, _]) dX7_planAt_62 (by decide) rfl ?_
            refine go_iconst (nI 0) dX7_planAt_64 (by decide +kernel) ?_
            refine go_istore (L' := [_, _, _, _, _, _, _, _, _, _]) dX7_planAt_65 (by decide) rfl ?_
            exact lp
        · rw [if_neg hle] at c2
          rw [r2 hle]
          show Go O (d + 40) kX7_planAt _ _ 0 [.ref 46, .int (nI n), .int (nI w), .int i, .null, .null, .null, .null, .null, .null] [] m1
          refine go_aload_n dX7_planAt_0 rfl ?_
          refine go_iconst (nI 0) dX7_planAt_1 (by decide +kernel) ?_
          refine go_puti dX7_planAt_2 fX7_77 rfl (by decide) (by decide) (by decide) rfl (fun _ _ _ h => by cases h; rfl) (Or.inl rfl) ?_
          refine go_aload_n dX7_planAt_5 rfl ?_
          refine go_iload_n dX7_planAt_6 rfl ?_
          refine go_iload_n dX7_planAt_7 rfl ?_
          refine go_callV1 (K' := kX7_noPlan) [_, _] dX7_planAt_8 mX7_194 lX7_noPlan rfl (by decide) rfl (by decide) rfl rfl (Nat.le_of_ble_eq_true rfl) (Nat.le_of_ble_eq_true rfl) (c_noPlan ((congrFun g46 4).trans hP) hP6 ((congrFun g46 5).trans hN) hN3 ((congrFun g46 6).trans hlw) hl3) ?_
          refine go_istore (L' := [_, _, _, _, _, _, _, _, _, _]) dX7_planAt_11 (by decide) rfl ?_
          refine go_iload dX7_planAt_13 rfl ?_
          refine go_if_eq 21 dX7_planAt_15 (by decide) (fun h15 => ?_) (fun h => absurd (hz) h)
          refine go_aload_n dX7_planAt_21 rfl ?_
          refine go_iload_n dX7_planAt_22 rfl ?_
          refine go_iload_n dX7_planAt_23 rfl ?_
          refine go_callV1 (K' := kX7_findFewest) [_, _] dX7_planAt_24 mX7_197 lX7_findFewest rfl (by decide) rfl (by decide) rfl rfl (Nat.le_of_ble_eq_true rfl) (Nat.le_of_ble_eq_true rfl) (c2) ?_
          refine go_bipush (-9) dX7_planAt_27 (by decide +kernel) ?_
          refine go_icmp_eq 48 dX7_planAt_29 (by decide) (fun h29 => ?_) (fun h => absurd (rfl) h)
          refine go_bipush (-9) dX7_planAt_48 (by decide +kernel) ?_
          exact go_iret dX7_planAt_50 rfl rfl rfl
      · rw [gupA_k _ _ (by omega), gup_k _ _ (by omega)]
        exact g k (by omega) (by omega)
      · rw [gupA_k _ _ (by omega), gup_k _ _ (by omega)]
        exact g k (by omega) (by omega)
      · rw [gupA_k _ _ (by omega), gup_i _ _ a1]
        exact congrFun g46 i
    cases hii : iR i (5 - hr + 1) with
    | false =>
      refine fin m (-9) m (fun _ _ _ => rfl) rfl rfl ?_ (fun _ => rfl) (fun _ => rfl) (fun _ j hj ej => absurd hii (by rw [ej, iR_nI hj (by omega)]; decide))
      show Go O (d + 40) kX6_planAt _ _ 0 [.ref 0, .int (nI n), .int (nI w), .int i, .null] [] m
      refine go_aload_n dX6_planAt_0 rfl ?_
      refine go_iload_n dX6_planAt_1 rfl ?_
      refine go_iload_n dX6_planAt_2 rfl ?_
      refine go_callV1 (K' := kX6_refusalOfPlan) [_, _] dX6_planAt_3 mX6_192 lX6_refusalOfPlan rfl (by decide) rfl (by decide) rfl rfl (Nat.le_of_ble_eq_true rfl) (Nat.le_of_ble_eq_true rfl) (c_refusal_35 hT t5 hP6 t6 hN3 t7 hl3) ?_
      refine go_istore (L' := [_, _, _, _, _]) dX6_planAt_6 (by decide) rfl ?_
      refine go_iload dX6_planAt_8 rfl ?_
      refine go_if_eq 16 dX6_planAt_10 (by decide) (fun h10 => ?_) (fun h => absurd (hz) h)
      refine go_iload_n dX6_planAt_16 rfl ?_
      refine go_if_lt 44 dX6_planAt_17 (by decide) (fun h17 => ?_) (fun h17 => ?_)
      · refine go_bipush (-9) dX6_planAt_44 (by decide +kernel) ?_
        exact go_iret dX6_planAt_46 rfl rfl rfl
      · refine go_iload_n dX6_planAt_20 rfl ?_
        refine go_iconst (nI 5) dX6_planAt_21 (by decide +kernel) ?_
        refine go_aload_n dX6_planAt_22 rfl ?_
        refine go_getc dX6_planAt_23 fX6_19 rfl (by decide) (by decide) (by decide) rfl ?_
        refine go_geti dX6_planAt_26 fX6_94 rfl (by decide) (by decide) (by decide) rfl s4 ?_
        refine go_isub dX6_planAt_29 e5 ?_
        refine go_icmp_gt 44 dX6_planAt_30 (by decide) (fun h30 => ?_) (fun h => absurd (by
          rcases Classical.em (nI (5 - hr) < i) with z | z
          · exact z
          · exact absurd (iR_ng (by omega) h17 z) (by rw [hii]; decide)) h)
        refine go_bipush (-9) dX6_planAt_44 (by decide +kernel) ?_
        exact go_iret dX6_planAt_46 rfl rfl rfl
    | true =>
      obtain ⟨j, hj, ei⟩ := iR_of hii
      subst ei
      obtain ⟨m1, c1, f1, o1, o2⟩ := c_least_35 (O := O) (d := d + 23) (m := m) (G := grp (m.1 48) P) (w := w) (h := hr) (k := k) (n := n) (a := lim n) (b := b) hT (by omega) (fun h a => grp_64 _ h a hP6) ok1 hk (by omega) tg s4 ((sk n (by omega)).trans ek) ((tn n hnN).1.trans el) (by rw [spl n 0 (by omega) (by omega), spl n 1 (by omega) (by omega), spl n 2 (by omega) (by omega), ok3 n (by omega)]; exact eb) hb l9
      have g : ∀ k, k ≠ 41 → k ≠ 42 → m1.1 k = m.1 k := fun k a1 a2 => (f1.2 k (by simp [a2])).trans (by unfold wtM_35; rw [gupA_k _ _ a2, gup_k _ _ a1]; rfl)
      have e20 : m1.2 0 = m.2 0 := (congrFun f1.1 0).trans rfl
      have e21 : m1.2 1 = m.2 1 := (congrFun f1.1 1).trans rfl
      have g3 := g 3 (by decide) (by decide)
      have g4 := g 4 (by decide) (by decide)
      by_cases hle : nR (grp (m.1 48) P) w (6 - hr) k ≤ lim n - b
      · rw [if_pos hle] at c1
        obtain ⟨m2, c2, f2⟩ := c_planned_35 (O := O) (d := d + 23) (m := m1) (G := grp (m.1 48) P) (w := w) (by omega) (fun h a => grp_64 _ h a hP6) (h0 := hr) (i0 := j) (k0 := k) (by omega) hk o1 o2 (by omega)
        refine fin m2 (nI (plan (grp (m.1 48) P) w j (5 - hr) k)) m (fun k a1 a2 => (f2.2 k (by simp [a2])).trans (g k a1 a2)) ((congrFun f2.1 0).trans e20) ((congrFun f2.1 1).trans e21) ?_ (fun q => absurd hii (by rw [q]; decide)) (fun q => absurd hle q) (fun _ j' hj' ej => by rw [(nI_eq (by omega) (by omega)).mp ej])
        show Go O (d + 40) kX6_planAt _ _ 0 [.ref 0, .int (nI n), .int (nI w), .int (nI j), .null] [] m
        refine go_aload_n dX6_planAt_0 rfl ?_
        refine go_iload_n dX6_planAt_1 rfl ?_
        refine go_iload_n dX6_planAt_2 rfl ?_
        refine go_callV1 (K' := kX6_refusalOfPlan) [_, _] dX6_planAt_3 mX6_192 lX6_refusalOfPlan rfl (by decide) rfl (by decide) rfl rfl (Nat.le_of_ble_eq_true rfl) (Nat.le_of_ble_eq_true rfl) (c_refusal_35 hT t5 hP6 t6 hN3 t7 hl3) ?_
        refine go_istore (L' := [_, _, _, _, _]) dX6_planAt_6 (by decide) rfl ?_
        refine go_iload dX6_planAt_8 rfl ?_
        refine go_if_eq 16 dX6_planAt_10 (by decide) (fun h10 => ?_) (fun h => absurd (hz) h)
        refine go_iload_n dX6_planAt_16 rfl ?_
        refine go_if_lt 44 dX6_planAt_17 (by decide) (fun h => absurd h (nI_pos (by omega))) (fun h17 => ?_)
        refine go_iload_n dX6_planAt_20 rfl ?_
        refine go_iconst (nI 5) dX6_planAt_21 (by decide +kernel) ?_
        refine go_aload_n dX6_planAt_22 rfl ?_
        refine go_getc dX6_planAt_23 fX6_19 rfl (by decide) (by decide) (by decide) rfl ?_
        refine go_geti dX6_planAt_26 fX6_94 rfl (by decide) (by decide) (by decide) rfl s4 ?_
        refine go_isub dX6_planAt_29 e5 ?_
        refine go_icmp_gt 44 dX6_planAt_30 (by decide) (fun h => absurd h (nI_nlt (by omega) (by omega))) (fun h30 => ?_)
        refine go_aload_n dX6_planAt_33 rfl ?_
        refine go_iload_n dX6_planAt_34 rfl ?_
        refine go_iload_n dX6_planAt_35 rfl ?_
        refine go_callV1 (K' := kX6_leastTellings) [_, _] dX6_planAt_36 mX6_195 lX6_leastTellings rfl (by decide) rfl (by decide) rfl rfl (Nat.le_of_ble_eq_true rfl) (Nat.le_of_ble_eq_true rfl) (c1) ?_
        refine go_bipush (-9) dX6_planAt_39 (by decide +kernel) ?_
        refine go_icmp_ne 47 dX6_planAt_41 (by decide) (fun h41 => ?_) (fun h => absurd h (nI_n9 (by omega)))
        refine go_aload_n dX6_planAt_47 rfl ?_
        refine go_getc dX6_planAt_48 fX6_59 rfl (by decide) (by decide) (by decide) rfl ?_
        refine go_aload_n dX6_planAt_51 rfl ?_
        refine go_getc dX6_planAt_52 fX6_19 rfl (by decide) (by decide) (by decide) rfl ?_
        refine go_geti dX6_planAt_55 fX6_94 rfl (by decide) (by decide) (by decide) rfl ((congrFun g3 4).trans s4) ?_
        refine go_aload_n dX6_planAt_58 rfl ?_
        refine go_getc dX6_planAt_59 fX6_19 rfl (by decide) (by decide) (by decide) rfl ?_
        refine go_getc dX6_planAt_62 fX6_130 rfl (by decide) (by decide) (by decide) rfl ?_
        refine go_iload_n dX6_planAt_65 rfl ?_
        refine go_iald dX6_planAt_66 rfl (by decide) rfl (by omega) (by decide) ((congrFun g4 n).trans ((sk n (by omega)).trans ek)) ?_
        refine go_iload_n dX6_planAt_67 rfl ?_
        refine go_callV1 (K' := kX2_planned) [_, _, _] dX6_planAt_68 mX6_198 lX2_planned rfl (by decide) rfl (by decide) rfl rfl (Nat.le_of_ble_eq_true rfl) (Nat.le_of_ble_eq_true rfl) (c2) ?_
        exact go_iret dX6_planAt_71 rfl rfl rfl
      · rw [if_neg hle] at c1
        refine fin m1 (-9) m g e20 e21 ?_ (fun _ => rfl) (fun _ => rfl) (fun q => absurd q hle)
        show Go O (d + 40) kX6_planAt _ _ 0 [.ref 0, .int (nI n), .int (nI w), .int (nI j), .null] [] m
        refine go_aload_n dX6_planAt_0 rfl ?_
        refine go_iload_n dX6_planAt_1 rfl ?_
        refine go_iload_n dX6_planAt_2 rfl ?_
        refine go_callV1 (K' := kX6_refusalOfPlan) [_, _] dX6_planAt_3 mX6_192 lX6_refusalOfPlan rfl (by decide) rfl (by decide) rfl rfl (Nat.le_of_ble_eq_true rfl) (Nat.le_of_ble_eq_true rfl) (c_refusal_35 hT t5 hP6 t6 hN3 t7 hl3) ?_
        refine go_istore (L' := [_, _, _, _, _]) dX6_planAt_6 (by decide) rfl ?_
        refine go_iload dX6_planAt_8 rfl ?_
        refine go_if_eq 16 dX6_planAt_10 (by decide) (fun h10 => ?_) (fun h => absurd (hz) h)
        refine go_iload_n dX6_planAt_16 rfl ?_
        refine go_if_lt 44 dX6_planAt_17 (by decide) (fun h => absurd h (nI_pos (by omega))) (fun h17 => ?_)
        refine go_iload_n dX6_planAt_20 rfl ?_
        refine go_iconst (nI 5) dX6_planAt_21 (by decide +kernel) ?_
        refine go_aload_n dX6_planAt_22 rfl ?_
        refine go_getc dX6_planAt_23 fX6_19 rfl (by decide) (by decide) (by decide) rfl ?_
        refine go_geti dX6_planAt_26 fX6_94 rfl (by decide) (by decide) (by decide) rfl s4 ?_
        refine go_isub dX6_planAt_29 e5 ?_
        refine go_icmp_gt 44 dX6_planAt_30 (by decide) (fun h => absurd h (nI_nlt (by omega) (by omega))) (fun h30 => ?_)
        refine go_aload_n dX6_planAt_33 rfl ?_
        refine go_iload_n dX6_planAt_34 rfl ?_
        refine go_iload_n dX6_planAt_35 rfl ?_
        refine go_callV1 (K' := kX6_leastTellings) [_, _] dX6_planAt_36 mX6_195 lX6_leastTellings rfl (by decide) rfl (by decide) rfl rfl (Nat.le_of_ble_eq_true rfl) (Nat.le_of_ble_eq_true rfl) (c1) ?_
        refine go_bipush (-9) dX6_planAt_39 (by decide +kernel) ?_
        refine go_icmp_ne 47 dX6_planAt_41 (by decide) (fun h => absurd h (fun q => q rfl)) (fun h41 => ?_)
        refine go_bipush (-9) dX6_planAt_44 (by decide +kernel) ?_
        exact go_iret dX6_planAt_46 rfl rfl rfl
  · refine ⟨(rfP n x P N lw), m, gup m 46 0 (nI 0), ?_, ?_, hthr⟩
    · show Go O (d + 40) kX6_planAt _ _ 0 [.ref 0, .int n, .int x, .int i, .null] [] m
      refine go_aload_n dX6_planAt_0 rfl ?_
      refine go_iload_n dX6_planAt_1 rfl ?_
      refine go_iload_n dX6_planAt_2 rfl ?_
      refine go_callV1 (K' := kX6_refusalOfPlan) [_, _] dX6_planAt_3 mX6_192 lX6_refusalOfPlan rfl (by decide) rfl (by decide) rfl rfl (Nat.le_of_ble_eq_true rfl) (Nat.le_of_ble_eq_true rfl) (c_refusal_35 hT t5 hP6 t6 hN3 t7 hl3) ?_
      refine go_istore (L' := [_, _, _, _, _]) dX6_planAt_6 (by decide) rfl ?_
      refine go_iload dX6_planAt_8 rfl ?_
      refine go_if_eq 16 dX6_planAt_10 (by decide) (fun h => absurd h (hz)) (fun h10 => ?_)
      refine go_iload dX6_planAt_13 rfl ?_
      exact go_iret dX6_planAt_15 rfl rfl rfl
    · show Go O (d + 40) kX7_planAt _ _ 0 [.ref 46, .int n, .int x, .int i, .null, .null, .null, .null, .null, .null] [] m
      refine go_aload_n dX7_planAt_0 rfl ?_
      refine go_iconst (nI 0) dX7_planAt_1 (by decide +kernel) ?_
      refine go_puti dX7_planAt_2 fX7_77 rfl (by decide) (by decide) (by decide) rfl (fun _ _ _ h => by cases h; rfl) (Or.inl rfl) ?_
      refine go_aload_n dX7_planAt_5 rfl ?_
      refine go_iload_n dX7_planAt_6 rfl ?_
      refine go_iload_n dX7_planAt_7 rfl ?_
      refine go_callV1 (K' := kX7_noPlan) [_, _] dX7_planAt_8 mX7_194 lX7_noPlan rfl (by decide) rfl (by decide) rfl rfl (Nat.le_of_ble_eq_true rfl) (Nat.le_of_ble_eq_true rfl) (c_noPlan hP hP6 hN hN3 hlw hl3) ?_
      refine go_istore (L' := [_, _, _, _, _, _, _, _, _, _]) dX7_planAt_11 (by decide) rfl ?_
      refine go_iload dX7_planAt_13 rfl ?_
      refine go_if_eq 21 dX7_planAt_15 (by decide) (fun h => absurd h (hz)) (fun h15 => ?_)
      refine go_iload dX7_planAt_18 rfl ?_
      exact go_iret dX7_planAt_20 rfl rfl rfl
theorem op_fewest {O : gOm} {d : Nat} {m : gMem} {n x : Int32} (h0 : Inv m) : OpOk O (d + 40) kX6_fewest kX7_fewest [.int n, .int x] m := by
  have hh := h0
  obtain ⟨P, N, lw, hr, a, c, L, lim, h1, h2, h3, h4, h5, h6, h7, h8⟩ := hh
  rcases h1 with ⟨e, -⟩ | ⟨e, -⟩
  · exact op_fewest_29 h0 e
  · exact op_fewest_35 h0 e
theorem op_planAt {O : gOm} {d : Nat} {m : gMem} {n x i : Int32} (h0 : Inv m) : OpOk O (d + 40) kX6_planAt kX7_planAt [.int n, .int x, .int i] m := by
  have hh := h0
  obtain ⟨P, N, lw, hr, a, c, L, lim, h1, h2, h3, h4, h5, h6, h7, h8⟩ := hh
  rcases h1 with ⟨e, -⟩ | ⟨e, -⟩
  · exact op_planAt_29 h0 e
  · exact op_planAt_35 h0 e
