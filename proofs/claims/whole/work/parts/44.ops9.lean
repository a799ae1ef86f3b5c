theorem mm_fr {m m1 : gMem} {T c1 c2 : Nat} {a b : Nat → Int32} (h : Inv m) (hT : m.2 0 = T) (hT2 : T = 29 ∨ T = 35) (g : ∀ k, (k < 41 ∨ 45 < k) → m1.1 k = m.1 k) (e0 : m1.2 0 = m.2 0) (e1 : m1.2 1 = m.2 1) (h1 : 64 ≤ c1) (h2 : 64 ≤ c2) : Inv (mm (gup m1 46 0 (nI 0)) c1 c2 a b) := by
  refine h.side e0 e1 (fun k hk => ?_) (fun k a1 a2 => ?_) (fun i a1 a2 a3 a4 a5 => ?_)
  · rw [mm_k _ _ _ (by omega) (by omega), gup_k _ _ (by omega)]
    exact g k (by omega)
  · rw [mm_k _ _ _ (by omega) (by omega), gup_k _ _ (by omega)]
    exact g k (by omega)
  · rw [mm_k _ _ _ (by omega) (by omega), gup_i _ _ a1]
    exact congrFun (g 46 (by omega)) i
theorem op_most_29 {O : gOm} {d : Nat} {m : gMem} {n : Int32} (h0 : Inv m) (hT : m.2 0 = 29) : OpOk O (d + 40) kX6_most kX7_most [.int n] m := by
  have hthr := h0.thr
  have hin0 := h0
  obtain ⟨P, N, lw, hr, a, c, L, lim, h1, h2, h3, h4, h5, h6, h7, h8⟩ := h0
  obtain ⟨hP, hP6, hN, hN3, hlw, hl3, hw, hlim, hfs⟩ := id h2
  obtain ⟨t5, t6, t7, tp, tg, tn⟩ : IvT m 29 P N lw := hT ▸ h3
  obtain ⟨⟨s4, sk, st, sa, spl⟩, h11, ok1, ok2, ok3, ok4, ok5⟩ := id h4
  cases hin : iR n N with
  | false =>
    refine ⟨(-1), m, gup m 46 0 (nI 0), ?_, ?_, hthr⟩
    · show Go O (d + 40) kX6_most _ _ 0 [.ref 0, .int n, .null] [] m
      refine go_aload_n dX6_most_0 rfl ?_
      refine go_iload_n dX6_most_1 rfl ?_
      refine go_callV1 (K' := kX6_isNews) [_] dX6_most_2 mX6_116 lX6_isNews rfl (by decide) rfl (by decide) rfl rfl (Nat.le_of_ble_eq_true rfl) (Nat.le_of_ble_eq_true rfl) (c_isNews_29 hT t6 (by omega)) ?_
      refine go_if_ne 10 dX6_most_5 (by decide) (fun h => absurd h (fun q => q (bI_0.mpr hin))) (fun h5 => ?_)
      refine go_iconst (-1) dX6_most_8 (by decide +kernel) ?_
      exact go_iret dX6_most_9 rfl rfl rfl
    · show Go O (d + 40) kX7_most _ _ 0 [.ref 46, .int n, .null, .null, .null, .null, .null] [] m
      refine go_aload_n dX7_most_0 rfl ?_
      refine go_iconst (nI 0) dX7_most_1 (by decide +kernel) ?_
      refine go_puti dX7_most_2 fX7_77 rfl (by decide) (by decide) (by decide) rfl (fun _ _ _ h => by cases h; rfl) (Or.inl rfl) ?_
      refine go_aload_n dX7_most_5 rfl ?_
      refine go_iload_n dX7_most_6 rfl ?_
      refine go_callV1 (K' := kX7_noNews) [_] dX7_most_7 mX7_155 lX7_noNews rfl (by decide) rfl (by decide) rfl rfl (Nat.le_of_ble_eq_true rfl) (Nat.le_of_ble_eq_true rfl) (c_noNews hN (by omega)) ?_
      refine go_if_eq 15 dX7_most_10 (by decide) (fun h => absurd h (bI_n0.mpr (by rw [hin]; rfl))) (fun h10 => ?_)
      refine go_iconst (-1) dX7_most_13 (by decide +kernel) ?_
      exact go_iret dX7_most_14 rfl rfl rfl
  | true =>
    by_cases hl : lw = 0
    · subst hl
      obtain ⟨n, hnN, rfl⟩ := iR_of hin
      obtain ⟨k, hk, ek⟩ := ok2 n (by omega)
      obtain ⟨b, hb, eb⟩ := ok4 n (by omega) hnN
      obtain ⟨l9, el⟩ := hlim n hnN
      obtain ⟨g, F, f1, c1⟩ := c_mostX_29 (O := O) (d := d + 35) (m := m) (G := grp (m.1 48) P) (hr := hr) (k0 := k) (n := n) (a := lim n) (b := b) (lw := 0) hT t6 hN3 hnN t7 (fun h a => grp_64 _ h a hP6) ok1 hk tg s4 ((sk n (by omega)).trans ek) ((tn n hnN).1.trans el) (by rw [spl n 0 (by omega) (by omega), spl n 1 (by omega) (by omega), spl n 2 (by omega) (by omega), ok3 n (by omega)]; exact eb) hb l9
      obtain ⟨x, y, W, w1, c2⟩ := c_mostM (O := O) (d := d + 37) (m := gupA (gupR m 2 29) 43 g) (P := P) (hr := hr) (k0 := k) (n := n) (a := lim n) (b := b) (N := N) hP hP6 hN hN3 hnN hlw h11 ok1 hk ek el eb hb l9
      have e := most_eq (c := 6 - hr) (by omega) f1 w1
      rw [e] at c1
      exact ⟨_, _, _, c1, c2, mm_fr hin0 hT (by omega) (fun k hk => by rw [gupA_k _ _ (by omega)]; rfl) rfl rfl (by omega) (by omega)⟩
    · refine ⟨(-3), m, gup m 46 0 (nI 0), ?_, ?_, hthr⟩
      · show Go O (d + 40) kX6_most _ _ 0 [.ref 0, .int n, .null] [] m
        refine go_aload_n dX6_most_0 rfl ?_
        refine go_iload_n dX6_most_1 rfl ?_
        refine go_callV1 (K' := kX6_isNews) [_] dX6_most_2 mX6_116 lX6_isNews rfl (by decide) rfl (by decide) rfl rfl (Nat.le_of_ble_eq_true rfl) (Nat.le_of_ble_eq_true rfl) (c_isNews_29 hT t6 (by omega)) ?_
        refine go_if_ne 10 dX6_most_5 (by decide) (fun h5 => ?_) (fun h => absurd h (bI_n0.mpr hin))
        refine go_aload_n dX6_most_10 rfl ?_
        refine go_getm dX6_most_11 fX6_47 rfl (by decide) (by decide) (by decide) rfl hT ?_
        refine go_geti dX6_most_14 fX6_91 rfl (by decide) (by decide) (by decide) rfl t7 ?_
        refine go_if_eq 23 dX6_most_17 (by decide) (fun h => absurd h (fun q => hl ((nI_eq (b := 0) (by omega) (by omega)).mp q))) (fun h17 => ?_)
        refine go_bipush (-3) dX6_most_20 (by decide +kernel) ?_
        exact go_iret dX6_most_22 rfl rfl rfl
      · show Go O (d + 40) kX7_most _ _ 0 [.ref 46, .int n, .null, .null, .null, .null, .null] [] m
        refine go_aload_n dX7_most_0 rfl ?_
        refine go_iconst (nI 0) dX7_most_1 (by decide +kernel) ?_
        refine go_puti dX7_most_2 fX7_77 rfl (by decide) (by decide) (by decide) rfl (fun _ _ _ h => by cases h; rfl) (Or.inl rfl) ?_
        refine go_aload_n dX7_most_5 rfl ?_
        refine go_iload_n dX7_most_6 rfl ?_
        refine go_callV1 (K' := kX7_noNews) [_] dX7_most_7 mX7_155 lX7_noNews rfl (by decide) rfl (by decide) rfl rfl (Nat.le_of_ble_eq_true rfl) (Nat.le_of_ble_eq_true rfl) (c_noNews hN (by omega)) ?_
        refine go_if_eq 15 dX7_most_10 (by decide) (fun h10 => ?_) (fun h => absurd (bI_0.mpr (by rw [hin]; rfl)) h)
        refine go_aload_n dX7_most_15 rfl ?_
        refine go_geti dX7_most_16 fX7_130 rfl (by decide) (by decide) (by decide) rfl hlw ?_
        refine go_if_eq 25 dX7_most_19 (by decide) (fun h => absurd h (fun q => hl ((nI_eq (b := 0) (by omega) (by omega)).mp q))) (fun h19 => ?_)
        refine go_bipush (-3) dX7_most_22 (by decide +kernel) ?_
        exact go_iret dX7_most_24 rfl rfl rfl
theorem op_spent_29 {O : gOm} {d : Nat} {m : gMem} {n p : Int32} (h0 : Inv m) (hT : m.2 0 = 29) : OpOk O (d + 40) kX6_spent kX7_spent [.int n, .int p] m := by
  have hthr := h0.thr
  have hin0 := h0
  obtain ⟨P, N, lw, hr, a, c, L, lim, h1, h2, h3, h4, h5, h6, h7, h8⟩ := h0
  obtain ⟨hP, hP6, hN, hN3, hlw, hl3, hw, hlim, hfs⟩ := id h2
  obtain ⟨t5, t6, t7, tp, tg, tn⟩ : IvT m 29 P N lw := hT ▸ h3
  obtain ⟨⟨s4, sk, st, sa, spl⟩, h11, ok1, ok2, ok3, ok4, ok5⟩ := id h4
  cases hip : iR p P with
  | false =>
    refine ⟨(-1), m, gup m 46 0 (nI 0), ?_, ?_, hthr⟩
    · show Go O (d + 40) kX6_spent _ _ 0 [.ref 0, .int n, .int p, .null] [] m
      refine go_aload_n dX6_spent_0 rfl ?_
      refine go_iload_n dX6_spent_1 rfl ?_
      refine go_callV1 (K' := kX6_isPerson) [_] dX6_spent_2 mX6_105 lX6_isPerson rfl (by decide) rfl (by decide) rfl rfl (Nat.le_of_ble_eq_true rfl) (Nat.le_of_ble_eq_true rfl) (c_isPerson_29 hT t5 hP6) ?_
      refine go_if_eq 16 dX6_spent_5 (by decide) (fun h5 => ?_) (fun h => absurd (bI_0.mpr hip) h)
      refine go_iconst (-1) dX6_spent_16 (by decide +kernel) ?_
      exact go_iret dX6_spent_17 rfl rfl rfl
    · show Go O (d + 40) kX7_spent _ _ 0 [.ref 46, .int n, .int p, .null, .null, .null] [] m
      refine go_aload_n dX7_spent_0 rfl ?_
      refine go_iconst (nI 0) dX7_spent_1 (by decide +kernel) ?_
      refine go_puti dX7_spent_2 fX7_77 rfl (by decide) (by decide) (by decide) rfl (fun _ _ _ h => by cases h; rfl) (Or.inl rfl) ?_
      refine go_aload_n dX7_spent_5 rfl ?_
      refine go_iload_n dX7_spent_6 rfl ?_
      refine go_callV1 (K' := kX7_noOne) [_] dX7_spent_7 mX7_150 lX7_noOne rfl (by decide) rfl (by decide) rfl rfl (Nat.le_of_ble_eq_true rfl) (Nat.le_of_ble_eq_true rfl) (c_noOne hP hP6) ?_
      refine go_if_ne 21 dX7_spent_10 (by decide) (fun h10 => ?_) (fun h => absurd h (bI_n0.mpr (by rw [hip]; rfl)))
      refine go_iconst (-1) dX7_spent_21 (by decide +kernel) ?_
      exact go_iret dX7_spent_22 rfl rfl rfl
  | true =>
  cases hin : iR n N with
  | false =>
    refine ⟨(-1), m, gup m 46 0 (nI 0), ?_, ?_, hthr⟩
    · show Go O (d + 40) kX6_spent _ _ 0 [.ref 0, .int n, .int p, .null] [] m
      refine go_aload_n dX6_spent_0 rfl ?_
      refine go_iload_n dX6_spent_1 rfl ?_
      refine go_callV1 (K' := kX6_isPerson) [_] dX6_spent_2 mX6_105 lX6_isPerson rfl (by decide) rfl (by decide) rfl rfl (Nat.le_of_ble_eq_true rfl) (Nat.le_of_ble_eq_true rfl) (c_isPerson_29 hT t5 hP6) ?_
      refine go_if_eq 16 dX6_spent_5 (by decide) (fun h => absurd h (bI_n0.mpr hip)) (fun h5 => ?_)
      refine go_aload_n dX6_spent_8 rfl ?_
      refine go_iload_n dX6_spent_9 rfl ?_
      refine go_callV1 (K' := kX6_isNews) [_] dX6_spent_10 mX6_116 lX6_isNews rfl (by decide) rfl (by decide) rfl rfl (Nat.le_of_ble_eq_true rfl) (Nat.le_of_ble_eq_true rfl) (c_isNews_29 hT t6 (by omega)) ?_
      refine go_if_ne 18 dX6_spent_13 (by decide) (fun h => absurd h (fun q => q (bI_0.mpr hin))) (fun h13 => ?_)
      refine go_iconst (-1) dX6_spent_16 (by decide +kernel) ?_
      exact go_iret dX6_spent_17 rfl rfl rfl
    · show Go O (d + 40) kX7_spent _ _ 0 [.ref 46, .int n, .int p, .null, .null, .null] [] m
      refine go_aload_n dX7_spent_0 rfl ?_
      refine go_iconst (nI 0) dX7_spent_1 (by decide +kernel) ?_
      refine go_puti dX7_spent_2 fX7_77 rfl (by decide) (by decide) (by decide) rfl (fun _ _ _ h => by cases h; rfl) (Or.inl rfl) ?_
      refine go_aload_n dX7_spent_5 rfl ?_
      refine go_iload_n dX7_spent_6 rfl ?_
      refine go_callV1 (K' := kX7_noOne) [_] dX7_spent_7 mX7_150 lX7_noOne rfl (by decide) rfl (by decide) rfl rfl (Nat.le_of_ble_eq_true rfl) (Nat.le_of_ble_eq_true rfl) (c_noOne hP hP6) ?_
      refine go_if_ne 21 dX7_spent_10 (by decide) (fun h => absurd h (fun q => q (bI_0.mpr (by rw [hip]; rfl)))) (fun h10 => ?_)
      refine go_aload_n dX7_spent_13 rfl ?_
      refine go_iload_n dX7_spent_14 rfl ?_
      refine go_callV1 (K' := kX7_noNews) [_] dX7_spent_15 mX7_155 lX7_noNews rfl (by decide) rfl (by decide) rfl rfl (Nat.le_of_ble_eq_true rfl) (Nat.le_of_ble_eq_true rfl) (c_noNews hN (by omega)) ?_
      refine go_if_eq 23 dX7_spent_18 (by decide) (fun h => absurd h (bI_n0.mpr (by rw [hin]; rfl))) (fun h18 => ?_)
      refine go_iconst (-1) dX7_spent_21 (by decide +kernel) ?_
      exact go_iret dX7_spent_22 rfl rfl rfl
  | true =>
    by_cases hl : lw = 0
    · subst hl
      obtain ⟨n, hnN, rfl⟩ := iR_of hin
      obtain ⟨p, hpP, rfl⟩ := iR_of hip
      obtain ⟨k, hk, ek⟩ := ok2 n (by omega)
      obtain ⟨b, hb, eb⟩ := ok4 n (by omega) hnN
      obtain ⟨l9, el⟩ := hlim n hnN
      obtain ⟨res, hres⟩ := SpR.ex (grp (m.1 48) P) (2 ^ p) hr k (lim n - b)
      obtain ⟨m1, c1, g, e0, e1⟩ := c_spentX_29 (O := O) (d := d + 35) (m := m) (G := grp (m.1 48) P) (hr := hr) (k0 := k) (n := n) (p := p) (a := lim n) (b := b) hT t5 hP6 hpP t6 hN3 hnN t7 (fun h a => grp_64 _ h a hP6) ok1 hk tg s4 ((sk n (by omega)).trans ek) ((tn n hnN).1.trans el) (by rw [spl n 0 (by omega) (by omega), spl n 1 (by omega) (by omega), spl n 2 (by omega) (by omega), ok3 n (by omega)]; exact eb) hb l9 hres
      have g46 := g 46 (by decide)
      have g48 := g 48 (by decide)
      have g49 := g 49 (by decide)
      have g52 := g 52 (by decide)
      rw [← g48] at hres
      obtain ⟨x, y, c2⟩ := c_spentM (O := O) (d := d + 36) (m := m1) (P := P) (hr := hr) (k0 := k) (n := n) (p := p) (a := lim n) (b := b) (N := N) ((congrFun g46 4).trans hP) hP6 hpP ((congrFun g46 5).trans hN) hN3 hnN ((congrFun g46 6).trans hlw) ((congrFun g46 11).trans h11) ok1 hk ((congrFun g52 _).trans ek) ((congrFun g49 _).trans el) ((congrFun g52 _).trans eb) hb l9 hres
      exact ⟨_, _, _, c1, c2, mm_fr hin0 hT (by omega) (fun k hk => g k (by omega)) e0 e1 (by omega) (by omega)⟩
    · refine ⟨(-3), m, gup m 46 0 (nI 0), ?_, ?_, hthr⟩
      · show Go O (d + 40) kX6_spent _ _ 0 [.ref 0, .int n, .int p, .null] [] m
        refine go_aload_n dX6_spent_0 rfl ?_
        refine go_iload_n dX6_spent_1 rfl ?_
        refine go_callV1 (K' := kX6_isPerson) [_] dX6_spent_2 mX6_105 lX6_isPerson rfl (by decide) rfl (by decide) rfl rfl (Nat.le_of_ble_eq_true rfl) (Nat.le_of_ble_eq_true rfl) (c_isPerson_29 hT t5 hP6) ?_
        refine go_if_eq 16 dX6_spent_5 (by decide) (fun h => absurd h (bI_n0.mpr hip)) (fun h5 => ?_)
        refine go_aload_n dX6_spent_8 rfl ?_
        refine go_iload_n dX6_spent_9 rfl ?_
        refine go_callV1 (K' := kX6_isNews) [_] dX6_spent_10 mX6_116 lX6_isNews rfl (by decide) rfl (by decide) rfl rfl (Nat.le_of_ble_eq_true rfl) (Nat.le_of_ble_eq_true rfl) (c_isNews_29 hT t6 (by omega)) ?_
        refine go_if_ne 18 dX6_spent_13 (by decide) (fun h13 => ?_) (fun h => absurd h (bI_n0.mpr hin))
        refine go_aload_n dX6_spent_18 rfl ?_
        refine go_getm dX6_spent_19 fX6_47 rfl (by decide) (by decide) (by decide) rfl hT ?_
        refine go_geti dX6_spent_22 fX6_91 rfl (by decide) (by decide) (by decide) rfl t7 ?_
        refine go_if_eq 31 dX6_spent_25 (by decide) (fun h => absurd h (fun q => hl ((nI_eq (b := 0) (by omega) (by omega)).mp q))) (fun h25 => ?_)
        refine go_bipush (-3) dX6_spent_28 (by decide +kernel) ?_
        exact go_iret dX6_spent_30 rfl rfl rfl
      · show Go O (d + 40) kX7_spent _ _ 0 [.ref 46, .int n, .int p, .null, .null, .null] [] m
        refine go_aload_n dX7_spent_0 rfl ?_
        refine go_iconst (nI 0) dX7_spent_1 (by decide +kernel) ?_
        refine go_puti dX7_spent_2 fX7_77 rfl (by decide) (by decide) (by decide) rfl (fun _ _ _ h => by cases h; rfl) (Or.inl rfl) ?_
        refine go_aload_n dX7_spent_5 rfl ?_
        refine go_iload_n dX7_spent_6 rfl ?_
        refine go_callV1 (K' := kX7_noOne) [_] dX7_spent_7 mX7_150 lX7_noOne rfl (by decide) rfl (by decide) rfl rfl (Nat.le_of_ble_eq_true rfl) (Nat.le_of_ble_eq_true rfl) (c_noOne hP hP6) ?_
        refine go_if_ne 21 dX7_spent_10 (by decide) (fun h => absurd h (fun q => q (bI_0.mpr (by rw [hip]; rfl)))) (fun h10 => ?_)
        refine go_aload_n dX7_spent_13 rfl ?_
        refine go_iload_n dX7_spent_14 rfl ?_
        refine go_callV1 (K' := kX7_noNews) [_] dX7_spent_15 mX7_155 lX7_noNews rfl (by decide) rfl (by decide) rfl rfl (Nat.le_of_ble_eq_true rfl) (Nat.le_of_ble_eq_true rfl) (c_noNews hN (by omega)) ?_
        refine go_if_eq 23 dX7_spent_18 (by decide) (fun h18 => ?_) (fun h => absurd (bI_0.mpr (by rw [hin]; rfl)) h)
        refine go_aload_n dX7_spent_23 rfl ?_
        refine go_geti dX7_spent_24 fX7_130 rfl (by decide) (by decide) (by decide) rfl hlw ?_
        refine go_if_eq 33 dX7_spent_27 (by decide) (fun h => absurd h (fun q => hl ((nI_eq (b := 0) (by omega) (by omega)).mp q))) (fun h27 => ?_)
        refine go_bipush (-3) dX7_spent_30 (by decide +kernel) ?_
        exact go_iret dX7_spent_32 rfl rfl rfl
theorem op_most_35 {O : gOm} {d : Nat} {m : gMem} {n : Int32} (h0 : Inv m) (hT : m.2 0 = 35) : OpOk O (d + 40) kX6_most kX7_most [.int n] m := by
  have hthr := h0.thr
  have hin0 := h0
  obtain ⟨P, N, lw, hr, a, c, L, lim, h1, h2, h3, h4, h5, h6, h7, h8⟩ := h0
  obtain ⟨hP, hP6, hN, hN3, hlw, hl3, hw, hlim, hfs⟩ := id h2
  obtain ⟨t5, t6, t7, tp, tg, tn⟩ : IvT m 35 P N lw := hT ▸ h3
  obtain ⟨⟨s4, sk, st, sa, spl⟩, h11, ok1, ok2, ok3, ok4, ok5⟩ := id h4
  cases hin : iR n N with
  | false =>
    refine ⟨(-1), m, gup m 46 0 (nI 0), ?_, ?_, hthr⟩
    · show Go O (d + 40) kX6_most _ _ 0 [.ref 0, .int n, .null] [] m
      refine go_aload_n dX6_most_0 rfl ?_
      refine go_iload_n dX6_most_1 rfl ?_
      refine go_callV1 (K' := kX6_isNews) [_] dX6_most_2 mX6_116 lX6_isNews rfl (by decide) rfl (by decide) rfl rfl (Nat.le_of_ble_eq_true rfl) (Nat.le_of_ble_eq_true rfl) (c_isNews_35 hT t6 (by omega)) ?_
      refine go_if_ne 10 dX6_most_5 (by decide) (fun h => absurd h (fun q => q (bI_0.mpr hin))) (fun h5 => ?_)
      refine go_iconst (-1) dX6_most_8 (by decide +kernel) ?_
      exact go_iret dX6_most_9 rfl rfl rfl
    · show Go O (d + 40) kX7_most _ _ 0 [.ref 46, .int n, .null, .null, .null, .null, .null] [] m
      refine go_aload_n dX7_most_0 rfl ?_
      refine go_iconst (nI 0) dX7_most_1 (by decide +kernel) ?_
      refine go_puti dX7_most_2 fX7_77 rfl (by decide) (by decide) (by decide) rfl (fun _ _ _ h => by cases h; rfl) (Or.inl rfl) ?_
      refine go_aload_n dX7_most_5 rfl ?_
      refine go_iload_n dX7_most_6 rfl ?_
      refine go_callV1 (K' := kX7_noNews) [_] dX7_most_7 mX7_155 lX7_noNews rfl (by decide) rfl (by decide) rfl rfl (Nat.le_of_ble_eq_true rfl) (Nat.le_of_ble_eq_true rfl) (c_noNews hN (by omega)) ?_
      refine go_if_eq 15 dX7_most_10 (by decide) (fun h => absurd h (bI_n0.mpr (by rw [hin]; rfl))) (fun h10 => ?_)
      refine go_iconst (-1) dX7_most_13 (by decide +kernel) ?_
      exact go_iret dX7_most_14 rfl rfl rfl
  | true =>
    by_cases hl : lw = 0
    · subst hl
      obtain ⟨n, hnN, rfl⟩ := iR_of hin
      obtain ⟨k, hk, ek⟩ := ok2 n (by omega)
      obtain ⟨b, hb, eb⟩ := ok4 n (by omega) hnN
      obtain ⟨l9, el⟩ := hlim n hnN
      obtain ⟨g, F, f1, c1⟩ := c_mostX_35 (O := O) (d := d + 35) (m := m) (G := grp (m.1 48) P) (hr := hr) (k0 := k) (n := n) (a := lim n) (b := b) (lw := 0) hT t6 hN3 hnN t7 (fun h a => grp_64 _ h a hP6) ok1 hk tg s4 ((sk n (by omega)).trans ek) ((tn n hnN).1.trans el) (by rw [spl n 0 (by omega) (by omega), spl n 1 (by omega) (by omega), spl n 2 (by omega) (by omega), ok3 n (by omega)]; exact eb) hb l9
      obtain ⟨x, y, W, w1, c2⟩ := c_mostM (O := O) (d := d + 37) (m := gupA (gupR m 2 35) 43 g) (P := P) (hr := hr) (k0 := k) (n := n) (a := lim n) (b := b) (N := N) hP hP6 hN hN3 hnN hlw h11 ok1 hk ek el eb hb l9
      have e := most_eq (c := 6 - hr) (by omega) f1 w1
      rw [e] at c1
      exact ⟨_, _, _, c1, c2, mm_fr hin0 hT (by omega) (fun k hk => by rw [gupA_k _ _ (by omega)]; rfl) rfl rfl (by omega) (by omega)⟩
    · refine ⟨(-3), m, gup m 46 0 (nI 0), ?_, ?_, hthr⟩
      · show Go O (d + 40) kX6_most _ _ 0 [.ref 0, .int n, .null] [] m
        refine go_aload_n dX6_most_0 rfl ?_
        refine go_iload_n dX6_most_1 rfl ?_
        refine go_callV1 (K' := kX6_isNews) [_] dX6_most_2 mX6_116 lX6_isNews rfl (by decide) rfl (by decide) rfl rfl (Nat.le_of_ble_eq_true rfl) (Nat.le_of_ble_eq_true rfl) (c_isNews_35 hT t6 (by omega)) ?_
        refine go_if_ne 10 dX6_most_5 (by decide) (fun h5 => ?_) (fun h => absurd h (bI_n0.mpr hin))
        refine go_aload_n dX6_most_10 rfl ?_
        refine go_getm dX6_most_11 fX6_47 rfl (by decide) (by decide) (by decide) rfl hT ?_
        refine go_geti dX6_most_14 fX6_91 rfl (by decide) (by decide) (by decide) rfl t7 ?_
        refine go_if_eq 23 dX6_most_17 (by decide) (fun h => absurd h (fun q => hl ((nI_eq (b := 0) (by omega) (by omega)).mp q))) (fun h17 => ?_)
        refine go_bipush (-3) dX6_most_20 (by decide +kernel) ?_
        exact go_iret dX6_most_22 rfl rfl rfl
      · show Go O (d + 40) kX7_most _ _ 0 [.ref 46, .int n, .null, .null, .null, .null, .null] [] m
        refine go_aload_n dX7_most_0 rfl ?_
        refine go_iconst (nI 0) dX7_most_1 (by decide +kernel) ?_
        refine go_puti dX7_most_2 fX7_77 rfl (by decide) (by decide) (by decide) rfl (fun _ _ _ h => by cases h; rfl) (Or.inl rfl) ?_
        refine go_aload_n dX7_most_5 rfl ?_
        refine go_iload_n dX7_most_6 rfl ?_
        refine go_callV1 (K' := kX7_noNews) [_] dX7_most_7 mX7_155 lX7_noNews rfl (by decide) rfl (by decide) rfl rfl (Nat.le_of_ble_eq_true rfl) (Nat.le_of_ble_eq_true rfl) (c_noNews hN (by omega)) ?_
        refine go_if_eq 15 dX7_most_10 (by decide) (fun h10 => ?_) (fun h => absurd (bI_0.mpr (by rw [hin]; rfl)) h)
        refine go_aload_n dX7_most_15 rfl ?_
        refine go_geti dX7_most_16 fX7_130 rfl (by decide) (by decide) (by decide) rfl hlw ?_
        refine go_if_eq 25 dX7_most_19 (by decide) (fun h => absurd h (fun q => hl ((nI_eq (b := 0) (by omega) (by omega)).mp q))) (fun h19 => ?_)
        refine go_bipush (-3) dX7_most_22 (by decide +kernel) ?_
        exact go_iret dX7_most_24 rfl rfl rfl
theorem op_spent_35 {O : gOm} {d : Nat} {m : gMem} {n p : Int32} (h0 : Inv m) (hT : m.2 0 = 35) : OpOk O (d + 40) kX6_spent kX7_spent [.int n, .int p] m := by
  have hthr := h0.thr
  have hin0 := h0
  obtain ⟨P, N, lw, hr, a, c, L, lim, h1, h2, h3, h4, h5, h6, h7, h8⟩ := h0
  obtain ⟨hP, hP6, hN, hN3, hlw, hl3, hw, hlim, hfs⟩ := id h2
  obtain ⟨t5, t6, t7, tp, tg, tn⟩ : IvT m 35 P N lw := hT ▸ h3
  obtain ⟨⟨s4, sk, st, sa, spl⟩, h11, ok1, ok2, ok3, ok4, ok5⟩ := id h4
  cases hip : iR p P with
  | false =>
    refine ⟨(-1), m, gup m 46 0 (nI 0), ?_, ?_, hthr⟩
    · show Go O (d + 40) kX6_spent _ _ 0 [.ref 0, .int n, .int p, .null] [] m
      refine go_aload_n dX6_spent_0 rfl ?_
      refine go_iload_n dX6_spent_1 rfl ?_
      refine go_callV1 (K' := kX6_isPerson) [_] dX6_spent_2 mX6_105 lX6_isPerson rfl (by decide) rfl (by decide) rfl rfl (Nat.le_of_ble_eq_true rfl) (Nat.le_of_ble_eq_true rfl) (c_isPerson_35 hT t5 hP6) ?_
      refine go_if_eq 16 dX6_spent_5 (by decide) (fun h5 => ?_) (fun h => absurd (bI_0.mpr hip) h)
      refine go_iconst (-1) dX6_spent_16 (by decide +kernel) ?_
      exact go_iret dX6_spent_17 rfl rfl rfl
    · show Go O (d + 40) kX7_spent _ _ 0 [.ref 46, .int n, .int p, .null, .null, .null] [] m
      refine go_aload_n dX7_spent_0 rfl ?_
      refine go_iconst (nI 0) dX7_spent_1 (by decide +kernel) ?_
      refine go_puti dX7_spent_2 fX7_77 rfl (by decide) (by decide) (by decide) rfl (fun _ _ _ h => by cases h; rfl) (Or.inl rfl) ?_
      refine go_aload_n dX7_spent_5 rfl ?_
      refine go_iload_n dX7_spent_6 rfl ?_
      refine go_callV1 (K' := kX7_noOne) [_] dX7_spent_7 mX7_150 lX7_noOne rfl (by decide) rfl (by decide) rfl rfl (Nat.le_of_ble_eq_true rfl) (Nat.le_of_ble_eq_true rfl) (c_noOne hP hP6) ?_
      refine go_if_ne 21 dX7_spent_10 (by decide) (fun h10 => ?_) (fun h => absurd h (bI_n0.mpr (by rw [hip]; rfl)))
      refine go_iconst (-1) dX7_spent_21 (by decide +kernel) ?_
      exact go_iret dX7_spent_22 rfl rfl rfl
  | true =>
  cases hin : iR n N with
  | false =>
    refine ⟨(-1), m, gup m 46 0 (nI 0), ?_, ?_, hthr⟩
    · show Go O (d + 40) kX6_spent _ _ 0 [.ref 0, .int n, .int p, .null] [] m
      refine go_aload_n dX6_spent_0 rfl ?_
      refine go_iload_n dX6_spent_1 rfl ?_
      refine go_callV1 (K' := kX6_isPerson) [_] dX6_spent_2 mX6_105 lX6_isPerson rfl (by decide) rfl (by decide) rfl rfl (Nat.le_of_ble_eq_true rfl) (Nat.le_of_ble_eq_true rfl) (c_isPerson_35 hT t5 hP6) ?_
      refine go_if_eq 16 dX6_spent_5 (by decide) (fun h => absurd h (bI_n0.mpr hip)) (fun h5 => ?_)
      refine go_aload_n dX6_spent_8 rfl ?_
      refine go_iload_n dX6_spent_9 rfl ?_
      refine go_callV1 (K' := kX6_isNews) [_] dX6_spent_10 mX6_116 lX6_isNews rfl (by decide) rfl (by decide) rfl rfl (Nat.le_of_ble_eq_true rfl) (Nat.le_of_ble_eq_true rfl) (c_isNews_35 hT t6 (by omega)) ?_
      refine go_if_ne 18 dX6_spent_13 (by decide) (fun h => absurd h (fun q => q (bI_0.mpr hin))) (fun h13 => ?_)
      refine go_iconst (-1) dX6_spent_16 (by decide +kernel) ?_
      exact go_iret dX6_spent_17 rfl rfl rfl
    · show Go O (d + 40) kX7_spent _ _ 0 [.ref 46, .int n, .int p, .null, .null, .null] [] m
      refine go_aload_n dX7_spent_0 rfl ?_
      refine go_iconst (nI 0) dX7_spent_1 (by decide +kernel) ?_
      refine go_puti dX7_spent_2 fX7_77 rfl (by decide) (by decide) (by decide) rfl (fun _ _ _ h => by cases h; rfl) (Or.inl rfl) ?_
      refine go_aload_n dX7_spent_5 rfl ?_
      refine go_iload_n dX7_spent_6 rfl ?_
      refine go_callV1 (K' := kX7_noOne) [_] dX7_spent_7 mX7_150 lX7_noOne rfl (by decide) rfl (by decide) rfl rfl (Nat.le_of_ble_eq_true rfl) (Nat.le_of_ble_eq_true rfl) (c_noOne hP hP6) ?_
      refine go_if_ne 21 dX7_spent_10 (by decide) (fun h => absurd h (fun q => q (bI_0.mpr (by rw [hip]; rfl)))) (fun h10 => ?_)
      refine go_aload_n dX7_spent_13 rfl ?_
      refine go_iload_n dX7_spent_14 rfl ?_
      refine go_callV1 (K' := kX7_noNews) [_] dX7_spent_15 mX7_155 lX7_noNews rfl (by decide) rfl (by decide) rfl rfl (Nat.le_of_ble_eq_true rfl) (Nat.le_of_ble_eq_true rfl) (c_noNews hN (by omega)) ?_
      refine go_if_eq 23 dX7_spent_18 (by decide) (fun h => absurd h (bI_n0.mpr (by rw [hin]; rfl))) (fun h18 => ?_)
      refine go_iconst (-1) dX7_spent_21 (by decide +kernel) ?_
      exact go_iret dX7_spent_22 rfl rfl rfl
  | true =>
    by_cases hl : lw = 0
    · subst hl
      obtain ⟨n, hnN, rfl⟩ := iR_of hin
      obtain ⟨p, hpP, rfl⟩ := iR_of hip
      obtain ⟨k, hk, ek⟩ := ok2 n (by omega)
      obtain ⟨b, hb, eb⟩ := ok4 n (by omega) hnN
      obtain ⟨l9, el⟩ := hlim n hnN
      obtain ⟨res, hres⟩ := SpR.ex (grp (m.1 48) P) (2 ^ p) hr k (lim n - b)
      obtain ⟨m1, c1, g, e0, e1⟩ := c_spentX_35 (O := O) (d := d + 35) (m := m) (G := grp (m.1 48) P) (hr := hr) (k0 := k) (n := n) (p := p) (a := lim n) (b := b) hT t5 hP6 hpP t6 hN3 hnN t7 (fun h a => grp_64 _ h a hP6) ok1 hk tg s4 ((sk n (by omega)).trans ek) ((tn n hnN).1.trans el) (by rw [spl n 0 (by omega) (by omega), spl n 1 (by omega) (by omega), spl n 2 (by omega) (by omega), ok3 n (by omega)]; exact eb) hb l9 hres
      have g46 := g 46 (by decide)
      have g48 := g 48 (by decide)
      have g49 := g 49 (by decide)
      have g52 := g 52 (by decide)
      rw [← g48] at hres
      obtain ⟨x, y, c2⟩ := c_spentM (O := O) (d := d + 36) (m := m1) (P := P) (hr := hr) (k0 := k) (n := n) (p := p) (a := lim n) (b := b) (N := N) ((congrFun g46 4).trans hP) hP6 hpP ((congrFun g46 5).trans hN) hN3 hnN ((congrFun g46 6).trans hlw) ((congrFun g46 11).trans h11) ok1 hk ((congrFun g52 _).trans ek) ((congrFun g49 _).trans el) ((congrFun g52 _).trans eb) hb l9 hres
      exact ⟨_, _, _, c1, c2, mm_fr hin0 hT (by omega) (fun k hk => g k (by omega)) e0 e1 (by omega) (by omega)⟩
    · refine ⟨(-3), m, gup m 46 0 (nI 0), ?_, ?_, hthr⟩
      · show Go O (d + 40) kX6_spent _ _ 0 [.ref 0, .int n, .int p, .null] [] m
        refine go_aload_n dX6_spent_0 rfl ?_
        refine go_iload_n dX6_spent_1 rfl ?_
        refine go_callV1 (K' := kX6_isPerson) [_] dX6_spent_2 mX6_105 lX6_isPerson rfl (by decide) rfl (by decide) rfl rfl (Nat.le_of_ble_eq_true rfl) (Nat.le_of_ble_eq_true rfl) (c_isPerson_35 hT t5 hP6) ?_
        refine go_if_eq 16 dX6_spent_5 (by decide) (fun h => absurd h (bI_n0.mpr hip)) (fun h5 => ?_)
        refine go_aload_n dX6_spent_8 rfl ?_
        refine go_iload_n dX6_spent_9 rfl ?_
        refine go_callV1 (K' := kX6_isNews) [_] dX6_spent_10 mX6_116 lX6_isNews rfl (by decide) rfl (by decide) rfl rfl (Nat.le_of_ble_eq_true rfl) (Nat.le_of_ble_eq_true rfl) (c_isNews_35 hT t6 (by omega)) ?_
        refine go_if_ne 18 dX6_spent_13 (by decide) (fun h13 => ?_) (fun h => absurd h (bI_n0.mpr hin))
        refine go_aload_n dX6_spent_18 rfl ?_
        refine go_getm dX6_spent_19 fX6_47 rfl (by decide) (by decide) (by decide) rfl hT ?_
        refine go_geti dX6_spent_22 fX6_91 rfl (by decide) (by decide) (by decide) rfl t7 ?_
        refine go_if_eq 31 dX6_spent_25 (by decide) (fun h => absurd h (fun q => hl ((nI_eq (b := 0) (by omega) (by omega)).mp q))) (fun h25 => ?_)
        refine go_bipush (-3) dX6_spent_28 (by decide +kernel) ?_
        exact go_iret dX6_spent_30 rfl rfl rfl
      · show Go O (d + 40) kX7_spent _ _ 0 [.ref 46, .int n, .int p, .null, .null, .null] [] m
        refine go_aload_n dX7_spent_0 rfl ?_
        refine go_iconst (nI 0) dX7_spent_1 (by decide +kernel) ?_
        refine go_puti dX7_spent_2 fX7_77 rfl (by decide) (by decide) (by decide) rfl (fun _ _ _ h => by cases h; rfl) (Or.inl rfl) ?_
        refine go_aload_n dX7_spent_5 rfl ?_
        refine go_iload_n dX7_spent_6 rfl ?_
        refine go_callV1 (K' := kX7_noOne) [_] dX7_spent_7 mX7_150 lX7_noOne rfl (by decide) rfl (by decide) rfl rfl (Nat.le_of_ble_eq_true rfl) (Nat.le_of_ble_eq_true rfl) (c_noOne hP hP6) ?_
        refine go_if_ne 21 dX7_spent_10 (by decide) (fun h => absurd h (fun q => q (bI_0.mpr (by rw [hip]; rfl)))) (fun h10 => ?_)
        refine go_aload_n dX7_spent_13 rfl ?_
        refine go_iload_n dX7_spent_14 rfl ?_
        refine go_callV1 (K' := kX7_noNews) [_] dX7_spent_15 mX7_155 lX7_noNews rfl (by decide) rfl (by decide) rfl rfl (Nat.le_of_ble_eq_true rfl) (Nat.le_of_ble_eq_true rfl) (c_noNews hN (by omega)) ?_
        refine go_if_eq 23 dX7_spent_18 (by decide) (fun h18 => ?_) (fun h => absurd (bI_0.mpr (by rw [hin]; rfl)) h)
        refine go_aload_n dX7_spent_23 rfl ?_
        refine go_geti dX7_spent_24 fX7_130 rfl (by decide) (by decide) (by decide) rfl hlw ?_
        refine go_if_eq 33 dX7_spent_27 (by decide) (fun h => absurd h (fun q => hl ((nI_eq (b := 0) (by omega) (by omega)).mp q))) (fun h27 => ?_)
        refine go_bipush (-3) dX7_spent_30 (by decide +kernel) ?_
        exact go_iret dX7_spent_32 rfl rfl rfl
theorem op_most {O : gOm} {d : Nat} {m : gMem} {n : Int32} (h0 : Inv m) : OpOk O (d + 40) kX6_most kX7_most [.int n] m := by
  have hh := h0
  obtain ⟨P, N, lw, hr, a, c, L, lim, h1, h2, h3, h4, h5, h6, h7, h8⟩ := hh
  rcases h1 with ⟨e, -⟩ | ⟨e, -⟩
  · exact op_most_29 h0 e
  · exact op_most_35 h0 e
theorem op_spent {O : gOm} {d : Nat} {m : gMem} {n p : Int32} (h0 : Inv m) : OpOk O (d + 40) kX6_spent kX7_spent [.int n, .int p] m := by
  have hh := h0
  obtain ⟨P, N, lw, hr, a, c, L, lim, h1, h2, h3, h4, h5, h6, h7, h8⟩ := hh
  rcases h1 with ⟨e, -⟩ | ⟨e, -⟩
  · exact op_spent_29 h0 e
  · exact op_spent_35 h0 e
