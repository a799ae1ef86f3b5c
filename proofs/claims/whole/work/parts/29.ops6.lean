theorem mT_true {kp : Bool} {g lw : Nat} {told lim tl pl : Int32} (h : mT kp g told lim lw tl pl = true) : kp = true ∧ 1 < pc6 g ∧ told < lim := by
  simp only [mT, Bool.and_eq_true, decide_eq_true_eq] at h
  exact ⟨h.1.1.1, h.1.1.2, h.1.2⟩
/-- who knows it behind a telling -/
theorem tlP_kn {f : Nat → Int32} {n p a G P N k : Nat} (hn : n < 3) (hp : p < 6) (ha : a < 3) (hP : P ≤ 6) (hnN : n < N) (hN : N ≤ 3) (e : f (3 + n) = nI k) (h5 : N = 3 → f 5 ||| (f 3 &&& f 4) = f 5) : tlP f n p a G P N (3 + n) = nI (k ||| G) := by
  by_cases hz : n = 2
  · subst hz
    obtain rfl : N = 3 := by omega
    have h5' := h5 rfl
    have e' : f 5 = nI k := e
    show tlP f 2 p a G P 3 5 = nI (k ||| G)
    have c5 : tl5 f 2 p a G P 5 = f 5 ||| nI G := by
      have := tl5_kn (f := f) (G := G) hn hp ha hP (n' := 2) (by omega)
      rw [if_pos rfl] at this
      exact this
    have c3 : tl5 f 2 p a G P 3 = f 3 := by
      have := tl5_kn (f := f) (G := G) hn hp ha hP (n' := 0) (by omega)
      rw [if_neg (by omega)] at this
      exact this
    have c4 : tl5 f 2 p a G P 4 = f 4 := by
      have := tl5_kn (f := f) (G := G) hn hp ha hP (n' := 1) (by omega)
      rw [if_neg (by omega)] at this
      exact this
    rw [tlP_5, if_pos rfl, c5, c3, c4]
    have e6 : f 5 ||| nI G ||| (f 3 &&& f 4) = f 5 ||| (f 3 &&& f 4) ||| nI G := by
      apply Int32.toBitVec_inj.1
      show (f 5).toBitVec ||| (nI G).toBitVec ||| (f 3 &&& f 4).toBitVec = (f 5).toBitVec ||| (f 3 &&& f 4).toBitVec ||| (nI G).toBitVec
      rw [BitVec.or_assoc, BitVec.or_comm (nI G).toBitVec, ← BitVec.or_assoc]
    rw [e6, h5', e', nb_or]
  · rw [tlP_n5 f (by omega), tl5_kn hn hp ha hP hn, if_pos rfl, e, nb_or]
theorem op_tell_29 {O : gOm} {d : Nat} {m : gMem} {p n : Int32} (h0 : Inv m) (hT : m.2 0 = 29) : OpOk O (d + 4) kX6_tell kX7_tell [.int p, .int n] m := by
  have hthr := h0.thr
  obtain ⟨P, N, lw, hr, a, c, L, lim, h1, h2, h3, h4, h5, h6, h7, h8⟩ := h0
  obtain ⟨hP, hP6, hN, hN3, hlw, hl3, hw, hlim, hfs⟩ := id h2
  obtain ⟨t5, t6, t7, tp, tg, tn⟩ : IvT m 29 P N lw := hT ▸ h3
  obtain ⟨⟨s4, sk, st, sa, spl⟩, h11, ok1, ok2, ok3, ok4, ok5⟩ := id h4
  have a24 := h5.2.1
  have a21 := h5.2.2.1
  have ha16 := h5.1
  cases hip : iR p P with
  | false =>
    refine ⟨(-1), m, gup m 46 0 (nI 0), ?_, ?_, hthr⟩
    · show Go O (d + 4) kX6_tell _ _ 0 [.ref 0, .int p, .int n] [] m
      refine go_aload_n dX6_tell_0 rfl ?_
      refine go_iload_n dX6_tell_1 rfl ?_
      refine go_callV1 (K' := kX6_isPerson) [_] dX6_tell_2 mX6_105 lX6_isPerson rfl (by decide) rfl (by decide) rfl rfl (Nat.le_of_ble_eq_true rfl) (Nat.le_of_ble_eq_true rfl) (c_isPerson_29 hT t5 hP6) ?_
      refine go_if_eq 16 dX6_tell_5 (by decide) (fun h5 => ?_) (fun h => absurd (bI_0.mpr hip) h)
      refine go_iconst (-1) dX6_tell_16 (by decide +kernel) ?_
      exact go_iret dX6_tell_17 rfl rfl rfl
    · show Go O (d + 4) kX7_tell _ _ 0 [.ref 46, .int p, .int n, .null] [] m
      refine go_aload_n dX7_tell_0 rfl ?_
      refine go_iconst (nI 0) dX7_tell_1 (by decide +kernel) ?_
      refine go_puti dX7_tell_2 fX7_77 rfl (by decide) (by decide) (by decide) rfl (fun _ _ _ h => by cases h; rfl) (Or.inl rfl) ?_
      refine go_aload_n dX7_tell_5 rfl ?_
      refine go_iload_n dX7_tell_6 rfl ?_
      refine go_callV1 (K' := kX7_noOne) [_] dX7_tell_7 mX7_150 lX7_noOne rfl (by decide) rfl (by decide) rfl rfl (Nat.le_of_ble_eq_true rfl) (Nat.le_of_ble_eq_true rfl) (c_noOne hP hP6) ?_
      refine go_if_ne 21 dX7_tell_10 (by decide) (fun h10 => ?_) (fun h => absurd h (bI_n0.mpr (by rw [hip]; rfl)))
      refine go_iconst (-1) dX7_tell_21 (by decide +kernel) ?_
      exact go_iret dX7_tell_22 rfl rfl rfl
  | true =>
    obtain ⟨p, hpP, rfl⟩ := iR_of hip
    cases hin : iR n N with
    | false =>
      refine ⟨(-1), m, gup m 46 0 (nI 0), ?_, ?_, hthr⟩
      · show Go O (d + 4) kX6_tell _ _ 0 [.ref 0, .int (nI p), .int n] [] m
        refine go_aload_n dX6_tell_0 rfl ?_
        refine go_iload_n dX6_tell_1 rfl ?_
        refine go_callV1 (K' := kX6_isPerson) [_] dX6_tell_2 mX6_105 lX6_isPerson rfl (by decide) rfl (by decide) rfl rfl (Nat.le_of_ble_eq_true rfl) (Nat.le_of_ble_eq_true rfl) (c_isPerson_29 hT t5 hP6) ?_
        refine go_if_eq 16 dX6_tell_5 (by decide) (fun h => absurd h (bI_n0.mpr hip)) (fun h5 => ?_)
        refine go_aload_n dX6_tell_8 rfl ?_
        refine go_iload_n dX6_tell_9 rfl ?_
        refine go_callV1 (K' := kX6_isNews) [_] dX6_tell_10 mX6_116 lX6_isNews rfl (by decide) rfl (by decide) rfl rfl (Nat.le_of_ble_eq_true rfl) (Nat.le_of_ble_eq_true rfl) (c_isNews_29 hT t6 (by omega)) ?_
        refine go_if_ne 18 dX6_tell_13 (by decide) (fun h => absurd h (fun z => z (bI_0.mpr hin))) (fun h13 => ?_)
        refine go_iconst (-1) dX6_tell_16 (by decide +kernel) ?_
        exact go_iret dX6_tell_17 rfl rfl rfl
      · show Go O (d + 4) kX7_tell _ _ 0 [.ref 46, .int (nI p), .int n, .null] [] m
        refine go_aload_n dX7_tell_0 rfl ?_
        refine go_iconst (nI 0) dX7_tell_1 (by decide +kernel) ?_
        refine go_puti dX7_tell_2 fX7_77 rfl (by decide) (by decide) (by decide) rfl (fun _ _ _ h => by cases h; rfl) (Or.inl rfl) ?_
        refine go_aload_n dX7_tell_5 rfl ?_
        refine go_iload_n dX7_tell_6 rfl ?_
        refine go_callV1 (K' := kX7_noOne) [_] dX7_tell_7 mX7_150 lX7_noOne rfl (by decide) rfl (by decide) rfl rfl (Nat.le_of_ble_eq_true rfl) (Nat.le_of_ble_eq_true rfl) (c_noOne hP hP6) ?_
        refine go_if_ne 21 dX7_tell_10 (by decide) (fun h => absurd h (fun z => z (bI_0.mpr (by rw [hip]; rfl)))) (fun h10 => ?_)
        refine go_aload_n dX7_tell_13 rfl ?_
        refine go_iload_n dX7_tell_14 rfl ?_
        refine go_callV1 (K' := kX7_noNews) [_] dX7_tell_15 mX7_155 lX7_noNews rfl (by decide) rfl (by decide) rfl rfl (Nat.le_of_ble_eq_true rfl) (Nat.le_of_ble_eq_true rfl) (c_noNews hN (by omega)) ?_
        refine go_if_eq 23 dX7_tell_18 (by decide) (fun h => absurd h (bI_n0.mpr (by rw [hin]; rfl))) (fun h18 => ?_)
        refine go_iconst (-1) dX7_tell_21 (by decide +kernel) ?_
        exact go_iret dX7_tell_22 rfl rfl rfl
    | true =>
      obtain ⟨n, hnN, rfl⟩ := iR_of hin
      obtain ⟨k, hk, ek⟩ := ok2 n (by omega)
      obtain ⟨k0, hk0, ek0⟩ := ok2 0 (by omega)
      obtain ⟨k1, hk1, ek1⟩ := ok2 1 (by omega)
      obtain ⟨k2, hk2, ek2⟩ := ok2 2 (by omega)
      obtain ⟨av, eav, hav⟩ := hw p hr hpP ok1
      have hG : gOf (grp (m.1 48) P hr) av < 64 := by
        cases av with
        | none => exact (by decide : (0 : Nat) < 64)
        | some b => exact grp_64 _ _ _ hP6
      generalize hB : mT (k.testBit p) (gOf (grp (m.1 48) P hr) av) (m.1 52 n) (m.1 49 n) lw (m.1 52 (6 + 6 * n + p)) (plOf (m.1 52) n av) = B
      have cX : Ca O (d + 3) kX5_allows [.ref 3, .ref 29, .int (nI p), .int (nI n)] (some (.int (bI B))) m m := by
        rw [← hB]
        exact c_allows_3_29 (P := P) s4 ok1 (by omega) (by omega) hk ((sk n (by omega)).trans ek) ((tp p hr hpP ok1).trans eav) (fun b hb => ⟨hav b hb, by rw [hb]; exact tg hr b ok1 (hav b hb), by rw [hb]; exact spl n b (by omega) (hav b hb)⟩) (fun e => by rw [e]; rfl) hG (by rw [spl n 0 (by omega) (by omega), spl n 1 (by omega) (by omega), spl n 2 (by omega) (by omega)]; exact ok3 n (by omega)) (tn n hnN).1 (st p n (by omega) (by omega)) t7 hl3
      have cM : ∀ m' : gMem, m'.1 46 = m.1 46 → m'.1 48 = m.1 48 → m'.1 49 = m.1 49 → m'.1 52 = m.1 52 → Ca O (d + 3) kX7_mayTell [.ref 46, .ref 52, .int (nI hr), .int (nI p), .int (nI n)] (some (.int (bI B))) (gup m' 46 0 (nI 0)) (gup m' 46 0 (nI 0)) := by
        intro m' q1 q2 q3 q4
        have hc := c_mayTell_52 (O := O) (d := d + 2) (m := gup m' 46 0 (nI 0)) (P := P) (h := hr) (p := p) (n := n) (kn := k) (lw := lw) (av := av) (by show m'.1 46 4 = _; rw [q1]; exact hP) hP6 ok1 hpP (by omega) (by show m'.1 52 _ = _; rw [q4]; exact ek) hk (by show m'.1 48 _ = _; rw [q2]; exact eav) hav (by show m'.1 46 6 = _; rw [q1]; exact hlw) hl3
        rw [show (gup m' 46 0 (nI 0)).1 48 = m.1 48 from q2, show (gup m' 46 0 (nI 0)).1 49 = m.1 49 from q3, show (gup m' 46 0 (nI 0)).1 52 = m.1 52 from q4, hB] at hc
        exact hc
      cases B with
      | false =>
        refine ⟨(-3), m, gup m 46 0 (nI 0), ?_, ?_, hthr⟩
        · show Go O (d + 4) kX6_tell _ _ 0 [.ref 0, .int (nI p), .int (nI n)] [] m
          refine go_aload_n dX6_tell_0 rfl ?_
          refine go_iload_n dX6_tell_1 rfl ?_
          refine go_callV1 (K' := kX6_isPerson) [_] dX6_tell_2 mX6_105 lX6_isPerson rfl (by decide) rfl (by decide) rfl rfl (Nat.le_of_ble_eq_true rfl) (Nat.le_of_ble_eq_true rfl) (c_isPerson_29 hT t5 hP6) ?_
          refine go_if_eq 16 dX6_tell_5 (by decide) (fun h => absurd h (bI_n0.mpr hip)) (fun h5 => ?_)
          refine go_aload_n dX6_tell_8 rfl ?_
          refine go_iload_n dX6_tell_9 rfl ?_
          refine go_callV1 (K' := kX6_isNews) [_] dX6_tell_10 mX6_116 lX6_isNews rfl (by decide) rfl (by decide) rfl rfl (Nat.le_of_ble_eq_true rfl) (Nat.le_of_ble_eq_true rfl) (c_isNews_29 hT t6 (by omega)) ?_
          refine go_if_ne 18 dX6_tell_13 (by decide) (fun h13 => ?_) (fun h => absurd h (bI_n0.mpr hin))
          refine go_aload_n dX6_tell_18 rfl ?_
          refine go_getc dX6_tell_19 fX6_19 rfl (by decide) (by decide) (by decide) rfl ?_
          refine go_aload_n dX6_tell_22 rfl ?_
          refine go_getm dX6_tell_23 fX6_47 rfl (by decide) (by decide) (by decide) rfl hT ?_
          refine go_iload_n dX6_tell_26 rfl ?_
          refine go_iload_n dX6_tell_27 rfl ?_
          refine go_callV1 (K' := kX5_allows) [_, _, _] dX6_tell_28 mX6_146 lX5_allows rfl (by decide) rfl (by decide) rfl rfl (Nat.le_of_ble_eq_true rfl) (Nat.le_of_ble_eq_true rfl) (cX) ?_
          refine go_if_ne 37 dX6_tell_31 (by decide) (fun h => absurd h (fun q => q rfl)) (fun h31 => ?_)
          refine go_bipush (-3) dX6_tell_34 (by decide +kernel) ?_
          exact go_iret dX6_tell_36 rfl rfl rfl
        · show Go O (d + 4) kX7_tell _ _ 0 [.ref 46, .int (nI p), .int (nI n), .null] [] m
          refine go_aload_n dX7_tell_0 rfl ?_
          refine go_iconst (nI 0) dX7_tell_1 (by decide +kernel) ?_
          refine go_puti dX7_tell_2 fX7_77 rfl (by decide) (by decide) (by decide) rfl (fun _ _ _ h => by cases h; rfl) (Or.inl rfl) ?_
          refine go_aload_n dX7_tell_5 rfl ?_
          refine go_iload_n dX7_tell_6 rfl ?_
          refine go_callV1 (K' := kX7_noOne) [_] dX7_tell_7 mX7_150 lX7_noOne rfl (by decide) rfl (by decide) rfl rfl (Nat.le_of_ble_eq_true rfl) (Nat.le_of_ble_eq_true rfl) (c_noOne hP hP6) ?_
          refine go_if_ne 21 dX7_tell_10 (by decide) (fun h => absurd h (fun z => z (bI_0.mpr (by rw [hip]; rfl)))) (fun h10 => ?_)
          refine go_aload_n dX7_tell_13 rfl ?_
          refine go_iload_n dX7_tell_14 rfl ?_
          refine go_callV1 (K' := kX7_noNews) [_] dX7_tell_15 mX7_155 lX7_noNews rfl (by decide) rfl (by decide) rfl rfl (Nat.le_of_ble_eq_true rfl) (Nat.le_of_ble_eq_true rfl) (c_noNews hN (by omega)) ?_
          refine go_if_eq 23 dX7_tell_18 (by decide) (fun h18 => ?_) (fun h => absurd (bI_0.mpr (by rw [hin]; rfl)) h)
          refine go_aload_n dX7_tell_23 rfl ?_
          refine go_aload_n dX7_tell_24 rfl ?_
          refine go_getc dX7_tell_25 fX7_25 rfl (by decide) (by decide) (by decide) rfl ?_
          refine go_aload_n dX7_tell_28 rfl ?_
          refine go_geti dX7_tell_29 fX7_137 rfl (by decide) (by decide) (by decide) rfl h11 ?_
          refine go_iload_n dX7_tell_32 rfl ?_
          refine go_iload_n dX7_tell_33 rfl ?_
          refine go_callV1 (K' := kX7_mayTell) [_, _, _, _] dX7_tell_34 mX7_161 lX7_mayTell rfl (by decide) rfl (by decide) rfl rfl (Nat.le_of_ble_eq_true rfl) (Nat.le_of_ble_eq_true rfl) (cM m rfl rfl rfl rfl) ?_
          refine go_if_ne 43 dX7_tell_37 (by decide) (fun h => absurd h (fun q => q rfl)) (fun h37 => ?_)
          refine go_bipush (-3) dX7_tell_40 (by decide +kernel) ?_
          exact go_iret dX7_tell_42 rfl rfl rfl
      | true =>
        obtain ⟨z1, z2, z3⟩ := mT_true hB
        cases av with
        | none => exact absurd z2 (by rw [show gOf (grp (m.1 48) P hr) none = 0 from rfl, pc6_0]; omega)
        | some b =>
        have hb := hav b rfl
        replace eav : m.1 48 (6 * p + hr) = nI b := eav
        replace hG : (grp (m.1 48) P hr b) < 64 := hG
        have hq : pk3 k0 k1 k2 < 262144 := by rw [pk3]; omega
        have hnk : ((grp (m.1 48) P hr b) &&& (k ^^^ 63)) < 64 := Nat.lt_of_le_of_lt Nat.and_le_left hG
        have eA : ∀ i, i ≠ 24 → i ≠ 25 → (apM m a (nI (tcN p n (pk3 k0 k1 k2)))).1 i = m.1 i := fun i y1 y2 => apM_k y1 y2
        have e1 : ∀ i, i ≠ 4 → i ≠ 5 → i ≠ 6 → i ≠ 7 → i ≠ 24 → i ≠ 25 → (gupA (ctM (apM m a (nI (tcN p n (pk3 k0 k1 k2)))) 3 p n b (grp (m.1 48) P hr b) P (nI 1)) 4 (jhP (upd ((apM m a (nI (tcN p n (pk3 k0 k1 k2)))).1 4) n (nI (k ||| (grp (m.1 48) P hr b)))) N)).1 i = m.1 i := by
          intro i y1 y2 y3 y4 y5 y6
          rw [gupA_k _ _ y1, ctM_o _ _ _ _ _ _ _ y2 y3 y4, apM_k y5 y6]
        have e46 := e1 46 (by decide) (by decide) (by decide) (by decide) (by decide) (by decide)
        have e48 := e1 48 (by decide) (by decide) (by decide) (by decide) (by decide) (by decide)
        have e49 := e1 49 (by decide) (by decide) (by decide) (by decide) (by decide) (by decide)
        have e52 := e1 52 (by decide) (by decide) (by decide) (by decide) (by decide) (by decide)
        have e57 := e1 57 (by decide) (by decide) (by decide) (by decide) (by decide) (by decide)
        have n46 : ∀ i, i ≠ 0 → i ≠ 21 → (ntM (gup (gupA (ctM (apM m a (nI (tcN p n (pk3 k0 k1 k2)))) 3 p n b (grp (m.1 48) P hr b) P (nI 1)) 4 (jhP (upd ((apM m a (nI (tcN p n (pk3 k0 k1 k2)))).1 4) n (nI (k ||| (grp (m.1 48) P hr b)))) N)) 46 0 (nI 0)) a).1 46 i = m.1 46 i := fun i y1 y2 => by rw [ntM_f y2, gup_i _ _ y1, e46]
        have n52 : (ntM (gup (gupA (ctM (apM m a (nI (tcN p n (pk3 k0 k1 k2)))) 3 p n b (grp (m.1 48) P hr b) P (nI 1)) 4 (jhP (upd ((apM m a (nI (tcN p n (pk3 k0 k1 k2)))).1 4) n (nI (k ||| (grp (m.1 48) P hr b)))) N)) 46 0 (nI 0)) a).1 52 = m.1 52 := by rw [ntM_k (by decide) (by decide), gup_k _ _ (by decide), e52]
        have n48 : (ntM (gup (gupA (ctM (apM m a (nI (tcN p n (pk3 k0 k1 k2)))) 3 p n b (grp (m.1 48) P hr b) P (nI 1)) 4 (jhP (upd ((apM m a (nI (tcN p n (pk3 k0 k1 k2)))).1 4) n (nI (k ||| (grp (m.1 48) P hr b)))) N)) 46 0 (nI 0)) a).1 48 = m.1 48 := by rw [ntM_k (by decide) (by decide), gup_k _ _ (by decide), e48]
        have n57 := ntM_57 (m := m) (m' := (gup (gupA (ctM (apM m a (nI (tcN p n (pk3 k0 k1 k2)))) 3 p n b (grp (m.1 48) P hr b) P (nI 1)) 4 (jhP (upd ((apM m a (nI (tcN p n (pk3 k0 k1 k2)))).1 4) n (nI (k ||| (grp (m.1 48) P hr b)))) N)) 46 0 (nI 0))) (a := a) (by rw [gup_k _ _ (by decide), e57]) (by rw [gup_k _ _ (by decide), e52]) (by rw [gup_i _ _ (by decide), e46])
        have tk : tlP (m.1 52) n p b (grp (m.1 48) P hr b) P N (3 + n) = nI (k ||| (grp (m.1 48) P hr b)) := tlP_kn (by omega) (by omega) hb hP6 hnN hN3 ek ok5
        have hres : nI (pc6 (k ||| (grp (m.1 48) P hr b))) - nI (pc6 k) = nI (pc6 ((grp (m.1 48) P hr b) &&& (k ^^^ 63))) := by
          rw [pc_or k hk _ hG, pk_sub (by omega), Nat.add_sub_cancel_left]
        have cT : Ca O (d + 3) kX7_tellIt [.ref 46, .ref 52, .int (nI hr), .int (nI p), .int (nI n)] none (ntM (gup (gupA (ctM (apM m a (nI (tcN p n (pk3 k0 k1 k2)))) 3 p n b (grp (m.1 48) P hr b) P (nI 1)) 4 (jhP (upd ((apM m a (nI (tcN p n (pk3 k0 k1 k2)))).1 4) n (nI (k ||| (grp (m.1 48) P hr b)))) N)) 46 0 (nI 0)) a) (gupA (ntM (gup (gupA (ctM (apM m a (nI (tcN p n (pk3 k0 k1 k2)))) 3 p n b (grp (m.1 48) P hr b) P (nI 1)) 4 (jhP (upd ((apM m a (nI (tcN p n (pk3 k0 k1 k2)))).1 4) n (nI (k ||| (grp (m.1 48) P hr b)))) N)) 46 0 (nI 0)) a) 52 (tlP (m.1 52) n p b (grp (m.1 48) P hr b) P N)) := by
          have hc := c_tellIt_52 (O := O) (d := d + 2) (m := (ntM (gup (gupA (ctM (apM m a (nI (tcN p n (pk3 k0 k1 k2)))) 3 p n b (grp (m.1 48) P hr b) P (nI 1)) 4 (jhP (upd ((apM m a (nI (tcN p n (pk3 k0 k1 k2)))).1 4) n (nI (k ||| (grp (m.1 48) P hr b)))) N)) 46 0 (nI 0)) a)) (P := P) (N := N) (h := hr) (p := p) (n := n) (a := b) ((n46 4 (by decide) (by decide)).trans hP) hP6 ((n46 5 (by decide) (by decide)).trans hN) hN3 ok1 hpP (by omega) (by rw [n48]; exact eav) hb
          rw [n48, n52] at hc
          exact hc
        refine ⟨(nI (pc6 ((grp (m.1 48) P hr b) &&& (k ^^^ 63)))), (gupA (ctM (apM m a (nI (tcN p n (pk3 k0 k1 k2)))) 3 p n b (grp (m.1 48) P hr b) P (nI 1)) 4 (jhP (upd ((apM m a (nI (tcN p n (pk3 k0 k1 k2)))).1 4) n (nI (k ||| (grp (m.1 48) P hr b)))) N)), (gupA (ntM (gup (gupA (ctM (apM m a (nI (tcN p n (pk3 k0 k1 k2)))) 3 p n b (grp (m.1 48) P hr b) P (nI 1)) 4 (jhP (upd ((apM m a (nI (tcN p n (pk3 k0 k1 k2)))).1 4) n (nI (k ||| (grp (m.1 48) P hr b)))) N)) 46 0 (nI 0)) a) 52 (tlP (m.1 52) n p b (grp (m.1 48) P hr b) P N)), ?_, ?_, ?_⟩
        · show Go O (d + 4) kX6_tell _ _ 0 [.ref 0, .int (nI p), .int (nI n)] [] m
          refine go_aload_n dX6_tell_0 rfl ?_
          refine go_iload_n dX6_tell_1 rfl ?_
          refine go_callV1 (K' := kX6_isPerson) [_] dX6_tell_2 mX6_105 lX6_isPerson rfl (by decide) rfl (by decide) rfl rfl (Nat.le_of_ble_eq_true rfl) (Nat.le_of_ble_eq_true rfl) (c_isPerson_29 hT t5 hP6) ?_
          refine go_if_eq 16 dX6_tell_5 (by decide) (fun h => absurd h (bI_n0.mpr hip)) (fun h5 => ?_)
          refine go_aload_n dX6_tell_8 rfl ?_
          refine go_iload_n dX6_tell_9 rfl ?_
          refine go_callV1 (K' := kX6_isNews) [_] dX6_tell_10 mX6_116 lX6_isNews rfl (by decide) rfl (by decide) rfl rfl (Nat.le_of_ble_eq_true rfl) (Nat.le_of_ble_eq_true rfl) (c_isNews_29 hT t6 (by omega)) ?_
          refine go_if_ne 18 dX6_tell_13 (by decide) (fun h13 => ?_) (fun h => absurd h (bI_n0.mpr hin))
          refine go_aload_n dX6_tell_18 rfl ?_
          refine go_getc dX6_tell_19 fX6_19 rfl (by decide) (by decide) (by decide) rfl ?_
          refine go_aload_n dX6_tell_22 rfl ?_
          refine go_getm dX6_tell_23 fX6_47 rfl (by decide) (by decide) (by decide) rfl hT ?_
          refine go_iload_n dX6_tell_26 rfl ?_
          refine go_iload_n dX6_tell_27 rfl ?_
          refine go_callV1 (K' := kX5_allows) [_, _, _] dX6_tell_28 mX6_146 lX5_allows rfl (by decide) rfl (by decide) rfl rfl (Nat.le_of_ble_eq_true rfl) (Nat.le_of_ble_eq_true rfl) (cX) ?_
          refine go_if_ne 37 dX6_tell_31 (by decide) (fun h31 => ?_) (fun h => absurd h (by decide +kernel))
          refine go_aload_n dX6_tell_37 rfl ?_
          refine go_getc dX6_tell_38 fX6_33 rfl (by decide) (by decide) (by decide) rfl ?_
          refine go_iload_n dX6_tell_41 rfl ?_
          refine go_iload_n dX6_tell_42 rfl ?_
          refine go_aload_n dX6_tell_43 rfl ?_
          refine go_getc dX6_tell_44 fX6_19 rfl (by decide) (by decide) (by decide) rfl ?_
          refine go_callV1 (K' := kX5_packedKnown) [] dX6_tell_47 mX6_150 lX5_packedKnown rfl (by decide) rfl (by decide) rfl rfl (Nat.le_of_ble_eq_true rfl) (Nat.le_of_ble_eq_true rfl) (c_packedKnown_3 ((sk 0 (by omega)).trans ek0) ((sk 1 (by omega)).trans ek1) ((sk 2 (by omega)).trans ek2) hk0 hk1 hk2) ?_
          refine go_callS1 (K' := kX0_telling) [_, _, _] dX6_tell_50 mX6_153 lX0_telling rfl rfl (Nat.le_of_ble_eq_true rfl) (Nat.le_of_ble_eq_true rfl) (c_telling (by omega) (by omega) hq) ?_
          refine go_callV0 (K' := kX0_append) [_] dX6_tell_53 mX6_157 lX0_append rfl (by decide) rfl (by decide) rfl rfl (Nat.le_of_ble_eq_true rfl) (Nat.le_of_ble_eq_true rfl) (c_append a24 ha16) ?_
          refine go_aload_n dX6_tell_56 rfl ?_
          refine go_getc dX6_tell_57 fX6_19 rfl (by decide) (by decide) (by decide) rfl ?_
          refine go_aload_n dX6_tell_60 rfl ?_
          refine go_getm dX6_tell_61 fX6_47 rfl (by decide) (by decide) (by decide) rfl ((congrFun apM_2 0).trans hT) ?_
          refine go_iload_n dX6_tell_64 rfl ?_
          refine go_iload_n dX6_tell_65 rfl ?_
          refine go_callV1 (K' := kX5_spread) [_, _, _] dX6_tell_66 mX6_158 lX5_spread rfl (by decide) rfl (by decide) rfl rfl (Nat.le_of_ble_eq_true rfl) (Nat.le_of_ble_eq_true rfl) (c_spread_3_29 (P := P) (N := N) (h := hr) (a := b) (G := (grp (m.1 48) P hr b)) (k := k) (by rw [eA 3 (by decide) (by decide)]; exact s4) ok1 (by omega) (by omega) hb (by rw [eA 30 (by decide) (by decide)]; exact (tp p hr hpP ok1).trans eav) (by rw [eA 31 (by decide) (by decide)]; exact tg hr b ok1 hb) hG (by rw [eA 29 (by decide) (by decide)]; exact t5) hP6 (by rw [eA 29 (by decide) (by decide)]; exact t6) hN3 (by rw [eA 4 (by decide) (by decide)]; exact (sk n (by omega)).trans ek) hk) ?_
          exact go_iret dX6_tell_69 rfl rfl rfl
        · show Go O (d + 4) kX7_tell _ _ 0 [.ref 46, .int (nI p), .int (nI n), .null] [] (gupA (ctM (apM m a (nI (tcN p n (pk3 k0 k1 k2)))) 3 p n b (grp (m.1 48) P hr b) P (nI 1)) 4 (jhP (upd ((apM m a (nI (tcN p n (pk3 k0 k1 k2)))).1 4) n (nI (k ||| (grp (m.1 48) P hr b)))) N))
          refine go_aload_n dX7_tell_0 rfl ?_
          refine go_iconst (nI 0) dX7_tell_1 (by decide +kernel) ?_
          refine go_puti dX7_tell_2 fX7_77 rfl (by decide) (by decide) (by decide) rfl (fun _ _ _ h => by cases h; rfl) (Or.inl rfl) ?_
          refine go_aload_n dX7_tell_5 rfl ?_
          refine go_iload_n dX7_tell_6 rfl ?_
          refine go_callV1 (K' := kX7_noOne) [_] dX7_tell_7 mX7_150 lX7_noOne rfl (by decide) rfl (by decide) rfl rfl (Nat.le_of_ble_eq_true rfl) (Nat.le_of_ble_eq_true rfl) (c_noOne (by show (gupA (ctM (apM m a (nI (tcN p n (pk3 k0 k1 k2)))) 3 p n b (grp (m.1 48) P hr b) P (nI 1)) 4 (jhP (upd ((apM m a (nI (tcN p n (pk3 k0 k1 k2)))).1 4) n (nI (k ||| (grp (m.1 48) P hr b)))) N)).1 46 4 = _; rw [e46]; exact hP) hP6) ?_
          refine go_if_ne 21 dX7_tell_10 (by decide) (fun h => absurd h (fun z => z (bI_0.mpr (by rw [hip]; rfl)))) (fun h10 => ?_)
          refine go_aload_n dX7_tell_13 rfl ?_
          refine go_iload_n dX7_tell_14 rfl ?_
          refine go_callV1 (K' := kX7_noNews) [_] dX7_tell_15 mX7_155 lX7_noNews rfl (by decide) rfl (by decide) rfl rfl (Nat.le_of_ble_eq_true rfl) (Nat.le_of_ble_eq_true rfl) (c_noNews (by show (gupA (ctM (apM m a (nI (tcN p n (pk3 k0 k1 k2)))) 3 p n b (grp (m.1 48) P hr b) P (nI 1)) 4 (jhP (upd ((apM m a (nI (tcN p n (pk3 k0 k1 k2)))).1 4) n (nI (k ||| (grp (m.1 48) P hr b)))) N)).1 46 5 = _; rw [e46]; exact hN) (by omega)) ?_
          refine go_if_eq 23 dX7_tell_18 (by decide) (fun h18 => ?_) (fun h => absurd (bI_0.mpr (by rw [hin]; rfl)) h)
          refine go_aload_n dX7_tell_23 rfl ?_
          refine go_aload_n dX7_tell_24 rfl ?_
          refine go_getc dX7_tell_25 fX7_25 rfl (by decide) (by decide) (by decide) rfl ?_
          refine go_aload_n dX7_tell_28 rfl ?_
          refine go_geti dX7_tell_29 fX7_137 rfl (by decide) (by decide) (by decide) rfl ((congrFun e46 11).trans h11) ?_
          refine go_iload_n dX7_tell_32 rfl ?_
          refine go_iload_n dX7_tell_33 rfl ?_
          refine go_callV1 (K' := kX7_mayTell) [_, _, _, _] dX7_tell_34 mX7_161 lX7_mayTell rfl (by decide) rfl (by decide) rfl rfl (Nat.le_of_ble_eq_true rfl) (Nat.le_of_ble_eq_true rfl) (cM _ e46 e48 e49 e52) ?_
          refine go_if_ne 43 dX7_tell_37 (by decide) (fun h37 => ?_) (fun h => absurd h (by decide +kernel))
          refine go_aload_n dX7_tell_43 rfl ?_
          refine go_callV0 (K' := kX7_note) [] dX7_tell_44 mX7_169 lX7_note rfl (by decide) rfl (by decide) rfl rfl (Nat.le_of_ble_eq_true rfl) (Nat.le_of_ble_eq_true rfl) (c_note (a := a) (by show (gupA (ctM (apM m a (nI (tcN p n (pk3 k0 k1 k2)))) 3 p n b (grp (m.1 48) P hr b) P (nI 1)) 4 (jhP (upd ((apM m a (nI (tcN p n (pk3 k0 k1 k2)))).1 4) n (nI (k ||| (grp (m.1 48) P hr b)))) N)).1 46 21 = _; rw [e46]; exact a21) ha16) ?_
          refine go_aload_n dX7_tell_47 rfl ?_
          refine go_getc dX7_tell_48 fX7_25 rfl (by decide) (by decide) (by decide) rfl ?_
          refine go_iconst (nI 3) dX7_tell_51 (by decide +kernel) ?_
          refine go_iload_n dX7_tell_52 rfl ?_
          first | refine go_iadd_n dX7_tell_53 ?_ | refine go_iadd dX7_tell_53 rfl ?_
          refine go_iald dX7_tell_54 rfl (by decide) rfl (by omega) (by decide) ((congrFun n52 (3 + n)).trans ek) ?_
          refine go_callS1 (K' := kX7_many) [_] dX7_tell_55 mX7_143 lX7_many rfl rfl (Nat.le_of_ble_eq_true rfl) (Nat.le_of_ble_eq_true rfl) (c_many (by omega)) ?_
          refine go_istore_n (L' := [_, _, _, _]) dX7_tell_58 (by decide) rfl ?_
          refine go_aload_n dX7_tell_59 rfl ?_
          refine go_aload_n dX7_tell_60 rfl ?_
          refine go_getc dX7_tell_61 fX7_25 rfl (by decide) (by decide) (by decide) rfl ?_
          refine go_aload_n dX7_tell_64 rfl ?_
          refine go_geti dX7_tell_65 fX7_137 rfl (by decide) (by decide) (by decide) rfl ((n46 11 (by decide) (by decide)).trans h11) ?_
          refine go_iload_n dX7_tell_68 rfl ?_
          refine go_iload_n dX7_tell_69 rfl ?_
          refine go_callV0 (K' := kX7_tellIt) [_, _, _, _] dX7_tell_70 mX7_172 lX7_tellIt rfl (by decide) rfl (by decide) rfl rfl (Nat.le_of_ble_eq_true rfl) (Nat.le_of_ble_eq_true rfl) (cT) ?_
          refine go_aload_n dX7_tell_73 rfl ?_
          refine go_getc dX7_tell_74 fX7_25 rfl (by decide) (by decide) (by decide) rfl ?_
          refine go_iconst (nI 3) dX7_tell_77 (by decide +kernel) ?_
          refine go_iload_n dX7_tell_78 rfl ?_
          first | refine go_iadd_n dX7_tell_79 ?_ | refine go_iadd dX7_tell_79 rfl ?_
          refine go_iald dX7_tell_80 rfl (by decide) rfl (by omega) (by decide) tk ?_
          refine go_callS1 (K' := kX7_many) [_] dX7_tell_81 mX7_143 lX7_many rfl rfl (Nat.le_of_ble_eq_true rfl) (Nat.le_of_ble_eq_true rfl) (c_many (a := k ||| (grp (m.1 48) P hr b)) (by have := or_lt64 hk hG; omega)) ?_
          refine go_iload_n dX7_tell_84 rfl ?_
          refine go_isub dX7_tell_85 hres ?_
          exact go_iret dX7_tell_86 rfl rfl rfl
        · obtain ⟨t0, y1, y2⟩ := ok4 n (by omega) hnN
          have hlm := hlim n hnN
          rw [y2, hlm.2] at z3
          have y3 := (nI_ltI (by omega) (by omega)).mp z3
          have okT := tlP_ok (f := m.1 52) (n := n) (p := p) (a := b) (G := (grp (m.1 48) P hr b)) (P := P) (N := N) (by omega) (by omega) hb hP6 h4.2.2 hnN hG y2 y3 hlm.1
          have m52 : (gupA (ntM (gup (gupA (ctM (apM m a (nI (tcN p n (pk3 k0 k1 k2)))) 3 p n b (grp (m.1 48) P hr b) P (nI 1)) 4 (jhP (upd ((apM m a (nI (tcN p n (pk3 k0 k1 k2)))).1 4) n (nI (k ||| (grp (m.1 48) P hr b)))) N)) 46 0 (nI 0)) a) 52 (tlP (m.1 52) n p b (grp (m.1 48) P hr b) P N)).1 52 = tlP (m.1 52) n p b (grp (m.1 48) P hr b) P N := gupA_s _ _ _
          have nk : ∀ i, i ≠ 3 → i ≠ 4 → i ≠ 5 → i ≠ 6 → i ≠ 7 → i ≠ 24 → i ≠ 25 → i ≠ 46 → i ≠ 52 → i ≠ 57 → (gupA (ntM (gup (gupA (ctM (apM m a (nI (tcN p n (pk3 k0 k1 k2)))) 3 p n b (grp (m.1 48) P hr b) P (nI 1)) 4 (jhP (upd ((apM m a (nI (tcN p n (pk3 k0 k1 k2)))).1 4) n (nI (k ||| (grp (m.1 48) P hr b)))) N)) 46 0 (nI 0)) a) 52 (tlP (m.1 52) n p b (grp (m.1 48) P hr b) P N)).1 i = m.1 i := by
            intro i q1 q2 q3 q4 q5 q6 q7 q8 q9 q10
            rw [gupA_k _ _ q9, ntM_k q8 q10, gup_k _ _ q8, e1 i q2 q3 q4 q5 q6 q7]
          have nf : ∀ i, i ≠ 0 → i ≠ 11 → i ≠ 21 → (gupA (ntM (gup (gupA (ctM (apM m a (nI (tcN p n (pk3 k0 k1 k2)))) 3 p n b (grp (m.1 48) P hr b) P (nI 1)) 4 (jhP (upd ((apM m a (nI (tcN p n (pk3 k0 k1 k2)))).1 4) n (nI (k ||| (grp (m.1 48) P hr b)))) N)) 46 0 (nI 0)) a) 52 (tlP (m.1 52) n p b (grp (m.1 48) P hr b) P N)).1 46 i = m.1 46 i := by
            intro i q1 q2 q3
            rw [gupA_k _ _ (by decide), n46 i q1 q3]
          have hSa : StP (apM m a (nI (tcN p n (pk3 k0 k1 k2)))) 3 (m.1 52) hr := h4.1.kept (congrFun (eA 3 (by decide) (by decide)) 4) (eA 4 (by decide) (by decide)) (eA 5 (by decide) (by decide)) (eA 6 (by decide) (by decide)) (eA 7 (by decide) (by decide))
          have hSb := hSa.spread (n := n) (p := p) (a := b) (G := (grp (m.1 48) P hr b)) (P := P) (N := N) (k := k) (by omega) (by omega) hb hP6 (by rw [eA (3 + 1) (by decide) (by decide)]; exact (sk n (by omega)).trans ek)
          have x3 : ∀ i, i ≠ 46 → i ≠ 52 → i ≠ 57 → (gupA (ntM (gup (gupA (ctM (apM m a (nI (tcN p n (pk3 k0 k1 k2)))) 3 p n b (grp (m.1 48) P hr b) P (nI 1)) 4 (jhP (upd ((apM m a (nI (tcN p n (pk3 k0 k1 k2)))).1 4) n (nI (k ||| (grp (m.1 48) P hr b)))) N)) 46 0 (nI 0)) a) 52 (tlP (m.1 52) n p b (grp (m.1 48) P hr b) P N)).1 i = (gupA (ctM (apM m a (nI (tcN p n (pk3 k0 k1 k2)))) 3 p n b (grp (m.1 48) P hr b) P (nI 1)) 4 (jhP (upd ((apM m a (nI (tcN p n (pk3 k0 k1 k2)))).1 4) n (nI (k ||| (grp (m.1 48) P hr b)))) N)).1 i := by
            intro i q1 q2 q3
            rw [gupA_k _ _ q2, ntM_k q1 q3, gup_k _ _ q1]
          have hSc : StP (gupA (ntM (gup (gupA (ctM (apM m a (nI (tcN p n (pk3 k0 k1 k2)))) 3 p n b (grp (m.1 48) P hr b) P (nI 1)) 4 (jhP (upd ((apM m a (nI (tcN p n (pk3 k0 k1 k2)))).1 4) n (nI (k ||| (grp (m.1 48) P hr b)))) N)) 46 0 (nI 0)) a) 52 (tlP (m.1 52) n p b (grp (m.1 48) P hr b) P N)) 3 (tlP (m.1 52) n p b (grp (m.1 48) P hr b) P N) hr := hSb.kept (congrFun (x3 3 (by decide) (by decide) (by decide)) 4) (x3 (3 + 1) (by decide) (by decide) (by decide)) (x3 (3 + 2) (by decide) (by decide) (by decide)) (x3 (3 + 3) (by decide) (by decide) (by decide)) (x3 (3 + 4) (by decide) (by decide) (by decide))
          have hPg : IvP (gupA (ntM (gup (gupA (ctM (apM m a (nI (tcN p n (pk3 k0 k1 k2)))) 3 p n b (grp (m.1 48) P hr b) P (nI 1)) 4 (jhP (upd ((apM m a (nI (tcN p n (pk3 k0 k1 k2)))).1 4) n (nI (k ||| (grp (m.1 48) P hr b)))) N)) 46 0 (nI 0)) a) 52 (tlP (m.1 52) n p b (grp (m.1 48) P hr b) P N)) N lim hr := by
            unfold IvP
            rw [m52]
            refine ⟨hSc, ?_, okT⟩
            rw [gupA_k _ _ (by decide), n46 11 (by decide) (by decide)]
            exact h11
          obtain ⟨a', hA⟩ := h5.push (m2 := (gupA (ntM (gup (gupA (ctM (apM m a (nI (tcN p n (pk3 k0 k1 k2)))) 3 p n b (grp (m.1 48) P hr b) P (nI 1)) 4 (jhP (upd ((apM m a (nI (tcN p n (pk3 k0 k1 k2)))).1 4) n (nI (k ||| (grp (m.1 48) P hr b)))) N)) 46 0 (nI 0)) a) 52 (tlP (m.1 52) n p b (grp (m.1 48) P hr b) P N))) (hr' := hr) (x := (nI (tcN p n (pk3 k0 k1 k2)))) hP6 hN3 h4.2.2 h11 (by rw [x3 24 (by decide) (by decide) (by decide), gupA_k _ _ (by decide), ctM_o _ _ _ _ _ _ _ (by decide) (by decide) (by decide)]) (by rw [x3 25 (by decide) (by decide) (by decide), gupA_k _ _ (by decide), ctM_o _ _ _ _ _ _ _ (by decide) (by decide) (by decide)]) (by rw [gupA_k _ _ (by decide)]; exact n57.1) (by rw [gupA_k _ _ (by decide)]; exact n57.2) (nk 48 (by decide) (by decide) (by decide) (by decide) (by decide) (by decide) (by decide) (by decide) (by decide) (by decide)) (Or.inr ⟨p, n, b, k0, k1, k2, hpP, hnN, hb, eav, ek0, ek1, ek2, hk0, hk1, hk2, rfl, rfl, by rw [m52]; exact PgE.rf _⟩)
          exact Inv.mk5 h1 h2 h3 h6 h7 h8 (by show (ntM _ a).2 = m.2; rw [ntM_2]; exact apM_2) nk nf hPg hA
theorem op_tell_35 {O : gOm} {d : Nat} {m : gMem} {p n : Int32} (h0 : Inv m) (hT : m.2 0 = 35) : OpOk O (d + 4) kX6_tell kX7_tell [.int p, .int n] m := by
  have hthr := h0.thr
  obtain ⟨P, N, lw, hr, a, c, L, lim, h1, h2, h3, h4, h5, h6, h7, h8⟩ := h0
  obtain ⟨hP, hP6, hN, hN3, hlw, hl3, hw, hlim, hfs⟩ := id h2
  obtain ⟨t5, t6, t7, tp, tg, tn⟩ : IvT m 35 P N lw := hT ▸ h3
  obtain ⟨⟨s4, sk, st, sa, spl⟩, h11, ok1, ok2, ok3, ok4, ok5⟩ := id h4
  have a24 := h5.2.1
  have a21 := h5.2.2.1
  have ha16 := h5.1
  cases hip : iR p P with
  | false =>
    refine ⟨(-1), m, gup m 46 0 (nI 0), ?_, ?_, hthr⟩
    · show Go O (d + 4) kX6_tell _ _ 0 [.ref 0, .int p, .int n] [] m
      refine go_aload_n dX6_tell_0 rfl ?_
      refine go_iload_n dX6_tell_1 rfl ?_
      refine go_callV1 (K' := kX6_isPerson) [_] dX6_tell_2 mX6_105 lX6_isPerson rfl (by decide) rfl (by decide) rfl rfl (Nat.le_of_ble_eq_true rfl) (Nat.le_of_ble_eq_true rfl) (c_isPerson_35 hT t5 hP6) ?_
      refine go_if_eq 16 dX6_tell_5 (by decide) (fun h5 => ?_) (fun h => absurd (bI_0.mpr hip) h)
      refine go_iconst (-1) dX6_tell_16 (by decide +kernel) ?_
      exact go_iret dX6_tell_17 rfl rfl rfl
    · show Go O (d + 4) kX7_tell _ _ 0 [.ref 46, .int p, .int n, .null] [] m
      refine go_aload_n dX7_tell_0 rfl ?_
      refine go_iconst (nI 0) dX7_tell_1 (by decide +kernel) ?_
      refine go_puti dX7_tell_2 fX7_77 rfl (by decide) (by decide) (by decide) rfl (fun _ _ _ h => by cases h; rfl) (Or.inl rfl) ?_
      refine go_aload_n dX7_tell_5 rfl ?_
      refine go_iload_n dX7_tell_6 rfl ?_
      refine go_callV1 (K' := kX7_noOne) [_] dX7_tell_7 mX7_150 lX7_noOne rfl (by decide) rfl (by decide) rfl rfl (Nat.le_of_ble_eq_true rfl) (Nat.le_of_ble_eq_true rfl) (c_noOne hP hP6) ?_
      refine go_if_ne 21 dX7_tell_10 (by decide) (fun h10 => ?_) (fun h => absurd h (bI_n0.mpr (by rw [hip]; rfl)))
      refine go_iconst (-1) dX7_tell_21 (by decide +kernel) ?_
      exact go_iret dX7_tell_22 rfl rfl rfl
  | true =>
    obtain ⟨p, hpP, rfl⟩ := iR_of hip
    cases hin : iR n N with
    | false =>
      refine ⟨(-1), m, gup m 46 0 (nI 0), ?_, ?_, hthr⟩
      · show Go O (d + 4) kX6_tell _ _ 0 [.ref 0, .int (nI p), .int n] [] m
        refine go_aload_n dX6_tell_0 rfl ?_
        refine go_iload_n dX6_tell_1 rfl ?_
        refine go_callV1 (K' := kX6_isPerson) [_] dX6_tell_2 mX6_105 lX6_isPerson rfl (by decide) rfl (by decide) rfl rfl (Nat.le_of_ble_eq_true rfl) (Nat.le_of_ble_eq_true rfl) (c_isPerson_35 hT t5 hP6) ?_
        refine go_if_eq 16 dX6_tell_5 (by decide) (fun h => absurd h (bI_n0.mpr hip)) (fun h5 => ?_)
        refine go_aload_n dX6_tell_8 rfl ?_
        refine go_iload_n dX6_tell_9 rfl ?_
        refine go_callV1 (K' := kX6_isNews) [_] dX6_tell_10 mX6_116 lX6_isNews rfl (by decide) rfl (by decide) rfl rfl (Nat.le_of_ble_eq_true rfl) (Nat.le_of_ble_eq_true rfl) (c_isNews_35 hT t6 (by omega)) ?_
        refine go_if_ne 18 dX6_tell_13 (by decide) (fun h => absurd h (fun z => z (bI_0.mpr hin))) (fun h13 => ?_)
        refine go_iconst (-1) dX6_tell_16 (by decide +kernel) ?_
        exact go_iret dX6_tell_17 rfl rfl rfl
      · show Go O (d + 4) kX7_tell _ _ 0 [.ref 46, .int (nI p), .int n, .null] [] m
        refine go_aload_n dX7_tell_0 rfl ?_
        refine go_iconst (nI 0) dX7_tell_1 (by decide +kernel) ?_
        refine go_puti dX7_tell_2 fX7_77 rfl (by decide) (by decide) (by decide) rfl (fun _ _ _ h => by cases h; rfl) (Or.inl rfl) ?_
        refine go_aload_n dX7_tell_5 rfl ?_
        refine go_iload_n dX7_tell_6 rfl ?_
        refine go_callV1 (K' := kX7_noOne) [_] dX7_tell_7 mX7_150 lX7_noOne rfl (by decide) rfl (by decide) rfl rfl (Nat.le_of_ble_eq_true rfl) (Nat.le_of_ble_eq_true rfl) (c_noOne hP hP6) ?_
        refine go_if_ne 21 dX7_tell_10 (by decide) (fun h => absurd h (fun z => z (bI_0.mpr (by rw [hip]; rfl)))) (fun h10 => ?_)
        refine go_aload_n dX7_tell_13 rfl ?_
        refine go_iload_n dX7_tell_14 rfl ?_
        refine go_callV1 (K' := kX7_noNews) [_] dX7_tell_15 mX7_155 lX7_noNews rfl (by decide) rfl (by decide) rfl rfl (Nat.le_of_ble_eq_true rfl) (Nat.le_of_ble_eq_true rfl) (c_noNews hN (by omega)) ?_
        refine go_if_eq 23 dX7_tell_18 (by decide) (fun h => absurd h (bI_n0.mpr (by rw [hin]; rfl))) (fun h18 => ?_)
        refine go_iconst (-1) dX7_tell_21 (by decide +kernel) ?_
        exact go_iret dX7_tell_22 rfl rfl rfl
    | true =>
      obtain ⟨n, hnN, rfl⟩ := iR_of hin
      obtain ⟨k, hk, ek⟩ := ok2 n (by omega)
      obtain ⟨k0, hk0, ek0⟩ := ok2 0 (by omega)
      obtain ⟨k1, hk1, ek1⟩ := ok2 1 (by omega)
      obtain ⟨k2, hk2, ek2⟩ := ok2 2 (by omega)
      obtain ⟨av, eav, hav⟩ := hw p hr hpP ok1
      have hG : gOf (grp (m.1 48) P hr) av < 64 := by
        cases av with
        | none => exact (by decide : (0 : Nat) < 64)
        | some b => exact grp_64 _ _ _ hP6
      generalize hB : mT (k.testBit p) (gOf (grp (m.1 48) P hr) av) (m.1 52 n) (m.1 49 n) lw (m.1 52 (6 + 6 * n + p)) (plOf (m.1 52) n av) = B
      have cX : Ca O (d + 3) kX5_allows [.ref 3, .ref 35, .int (nI p), .int (nI n)] (some (.int (bI B))) m m := by
        rw [← hB]
        exact c_allows_3_35 (P := P) s4 ok1 (by omega) (by omega) hk ((sk n (by omega)).trans ek) ((tp p hr hpP ok1).trans eav) (fun b hb => ⟨hav b hb, by rw [hb]; exact tg hr b ok1 (hav b hb), by rw [hb]; exact spl n b (by omega) (hav b hb)⟩) (fun e => by rw [e]; rfl) hG (by rw [spl n 0 (by omega) (by omega), spl n 1 (by omega) (by omega), spl n 2 (by omega) (by omega)]; exact ok3 n (by omega)) (tn n hnN).1 (st p n (by omega) (by omega)) t7 hl3
      have cM : ∀ m' : gMem, m'.1 46 = m.1 46 → m'.1 48 = m.1 48 → m'.1 49 = m.1 49 → m'.1 52 = m.1 52 → Ca O (d + 3) kX7_mayTell [.ref 46, .ref 52, .int (nI hr), .int (nI p), .int (nI n)] (some (.int (bI B))) (gup m' 46 0 (nI 0)) (gup m' 46 0 (nI 0)) := by
        intro m' q1 q2 q3 q4
        have hc := c_mayTell_52 (O := O) (d := d + 2) (m := gup m' 46 0 (nI 0)) (P := P) (h := hr) (p := p) (n := n) (kn := k) (lw := lw) (av := av) (by show m'.1 46 4 = _; rw [q1]; exact hP) hP6 ok1 hpP (by omega) (by show m'.1 52 _ = _; rw [q4]; exact ek) hk (by show m'.1 48 _ = _; rw [q2]; exact eav) hav (by show m'.1 46 6 = _; rw [q1]; exact hlw) hl3
        rw [show (gup m' 46 0 (nI 0)).1 48 = m.1 48 from q2, show (gup m' 46 0 (nI 0)).1 49 = m.1 49 from q3, show (gup m' 46 0 (nI 0)).1 52 = m.1 52 from q4, hB] at hc
        exact hc
      cases B with
      | false =>
        refine ⟨(-3), m, gup m 46 0 (nI 0), ?_, ?_, hthr⟩
        · show Go O (d + 4) kX6_tell _ _ 0 [.ref 0, .int (nI p), .int (nI n)] [] m
          refine go_aload_n dX6_tell_0 rfl ?_
          refine go_iload_n dX6_tell_1 rfl ?_
          refine go_callV1 (K' := kX6_isPerson) [_] dX6_tell_2 mX6_105 lX6_isPerson rfl (by decide) rfl (by decide) rfl rfl (Nat.le_of_ble_eq_true rfl) (Nat.le_of_ble_eq_true rfl) (c_isPerson_35 hT t5 hP6) ?_
          refine go_if_eq 16 dX6_tell_5 (by decide) (fun h => absurd h (bI_n0.mpr hip)) (fun h5 => ?_)
          refine go_aload_n dX6_tell_8 rfl ?_
          refine go_iload_n dX6_tell_9 rfl ?_
          refine go_callV1 (K' := kX6_isNews) [_] dX6_tell_10 mX6_116 lX6_isNews rfl (by decide) rfl (by decide) rfl rfl (Nat.le_of_ble_eq_true rfl) (Nat.le_of_ble_eq_true rfl) (c_isNews_35 hT t6 (by omega)) ?_
          refine go_if_ne 18 dX6_tell_13 (by decide) (fun h13 => ?_) (fun h => absurd h (bI_n0.mpr hin))
          refine go_aload_n dX6_tell_18 rfl ?_
          refine go_getc dX6_tell_19 fX6_19 rfl (by decide) (by decide) (by decide) rfl ?_
          refine go_aload_n dX6_tell_22 rfl ?_
          refine go_getm dX6_tell_23 fX6_47 rfl (by decide) (by decide) (by decide) rfl hT ?_
          refine go_iload_n dX6_tell_26 rfl ?_
          refine go_iload_n dX6_tell_27 rfl ?_
          refine go_callV1 (K' := kX5_allows) [_, _, _] dX6_tell_28 mX6_146 lX5_allows rfl (by decide) rfl (by decide) rfl rfl (Nat.le_of_ble_eq_true rfl) (Nat.le_of_ble_eq_true rfl) (cX) ?_
          refine go_if_ne 37 dX6_tell_31 (by decide) (fun h => absurd h (fun q => q rfl)) (fun h31 => ?_)
          refine go_bipush (-3) dX6_tell_34 (by decide +kernel) ?_
          exact go_iret dX6_tell_36 rfl rfl rfl
        · show Go O (d + 4) kX7_tell _ _ 0 [.ref 46, .int (nI p), .int (nI n), .null] [] m
          refine go_aload_n dX7_tell_0 rfl ?_
          refine go_iconst (nI 0) dX7_tell_1 (by decide +kernel) ?_
          refine go_puti dX7_tell_2 fX7_77 rfl (by decide) (by decide) (by decide) rfl (fun _ _ _ h => by cases h; rfl) (Or.inl rfl) ?_
          refine go_aload_n dX7_tell_5 rfl ?_
          refine go_iload_n dX7_tell_6 rfl ?_
          refine go_callV1 (K' := kX7_noOne) [_] dX7_tell_7 mX7_150 lX7_noOne rfl (by decide) rfl (by decide) rfl rfl (Nat.le_of_ble_eq_true rfl) (Nat.le_of_ble_eq_true rfl) (c_noOne hP hP6) ?_
          refine go_if_ne 21 dX7_tell_10 (by decide) (fun h => absurd h (fun z => z (bI_0.mpr (by rw [hip]; rfl)))) (fun h10 => ?_)
          refine go_aload_n dX7_tell_13 rfl ?_
          refine go_iload_n dX7_tell_14 rfl ?_
          refine go_callV1 (K' := kX7_noNews) [_] dX7_tell_15 mX7_155 lX7_noNews rfl (by decide) rfl (by decide) rfl rfl (Nat.le_of_ble_eq_true rfl) (Nat.le_of_ble_eq_true rfl) (c_noNews hN (by omega)) ?_
          refine go_if_eq 23 dX7_tell_18 (by decide) (fun h18 => ?_) (fun h => absurd (bI_0.mpr (by rw [hin]; rfl)) h)
          refine go_aload_n dX7_tell_23 rfl ?_
          refine go_aload_n dX7_tell_24 rfl ?_
          refine go_getc dX7_tell_25 fX7_25 rfl (by decide) (by decide) (by decide) rfl ?_
          refine go_aload_n dX7_tell_28 rfl ?_
          refine go_geti dX7_tell_29 fX7_137 rfl (by decide) (by decide) (by decide) rfl h11 ?_
          refine go_iload_n dX7_tell_32 rfl ?_
          refine go_iload_n dX7_tell_33 rfl ?_
          refine go_callV1 (K' := kX7_mayTell) [_, _, _, _] dX7_tell_34 mX7_161 lX7_mayTell rfl (by decide) rfl (by decide) rfl rfl (Nat.le_of_ble_eq_true rfl) (Nat.le_of_ble_eq_true rfl) (cM m rfl rfl rfl rfl) ?_
          refine go_if_ne 43 dX7_tell_37 (by decide) (fun h => absurd h (fun q => q rfl)) (fun h37 => ?_)
          refine go_bipush (-3) dX7_tell_40 (by decide +kernel) ?_
          exact go_iret dX7_tell_42 rfl rfl rfl
      | true =>
        obtain ⟨z1, z2, z3⟩ := mT_true hB
        cases av with
        | none => exact absurd z2 (by rw [show gOf (grp (m.1 48) P hr) none = 0 from rfl, pc6_0]; omega)
        | some b =>
        have hb := hav b rfl
        replace eav : m.1 48 (6 * p + hr) = nI b := eav
        replace hG : (grp (m.1 48) P hr b) < 64 := hG
        have hq : pk3 k0 k1 k2 < 262144 := by rw [pk3]; omega
        have hnk : ((grp (m.1 48) P hr b) &&& (k ^^^ 63)) < 64 := Nat.lt_of_le_of_lt Nat.and_le_left hG
        have eA : ∀ i, i ≠ 24 → i ≠ 25 → (apM m a (nI (tcN p n (pk3 k0 k1 k2)))).1 i = m.1 i := fun i y1 y2 => apM_k y1 y2
        have e1 : ∀ i, i ≠ 4 → i ≠ 5 → i ≠ 6 → i ≠ 7 → i ≠ 24 → i ≠ 25 → (gupA (ctM (apM m a (nI (tcN p n (pk3 k0 k1 k2)))) 3 p n b (grp (m.1 48) P hr b) P (nI 1)) 4 (jhP (upd ((apM m a (nI (tcN p n (pk3 k0 k1 k2)))).1 4) n (nI (k ||| (grp (m.1 48) P hr b)))) N)).1 i = m.1 i := by
          intro i y1 y2 y3 y4 y5 y6
          rw [gupA_k _ _ y1, ctM_o _ _ _ _ _ _ _ y2 y3 y4, apM_k y5 y6]
        have e46 := e1 46 (by decide) (by decide) (by decide) (by decide) (by decide) (by decide)
        have e48 := e1 48 (by decide) (by decide) (by decide) (by decide) (by decide) (by decide)
        have e49 := e1 49 (by decide) (by decide) (by decide) (by decide) (by decide) (by decide)
        have e52 := e1 52 (by decide) (by decide) (by decide) (by decide) (by decide) (by decide)
        have e57 := e1 57 (by decide) (by decide) (by decide) (by decide) (by decide) (by decide)
        have n46 : ∀ i, i ≠ 0 → i ≠ 21 → (ntM (gup (gupA (ctM (apM m a (nI (tcN p n (pk3 k0 k1 k2)))) 3 p n b (grp (m.1 48) P hr b) P (nI 1)) 4 (jhP (upd ((apM m a (nI (tcN p n (pk3 k0 k1 k2)))).1 4) n (nI (k ||| (grp (m.1 48) P hr b)))) N)) 46 0 (nI 0)) a).1 46 i = m.1 46 i := fun i y1 y2 => by rw [ntM_f y2, gup_i _ _ y1, e46]
        have n52 : (ntM (gup (gupA (ctM (apM m a (nI (tcN p n (pk3 k0 k1 k2)))) 3 p n b (grp (m.1 48) P hr b) P (nI 1)) 4 (jhP (upd ((apM m a (nI (tcN p n (pk3 k0 k1 k2)))).1 4) n (nI (k ||| (grp (m.1 48) P hr b)))) N)) 46 0 (nI 0)) a).1 52 = m.1 52 := by rw [ntM_k (by decide) (by decide), gup_k _ _ (by decide), e52]
        have n48 : (ntM (gup (gupA (ctM (apM m a (nI (tcN p n (pk3 k0 k1 k2)))) 3 p n b (grp (m.1 48) P hr b) P (nI 1)) 4 (jhP (upd ((apM m a (nI (tcN p n (pk3 k0 k1 k2)))).1 4) n (nI (k ||| (grp (m.1 48) P hr b)))) N)) 46 0 (nI 0)) a).1 48 = m.1 48 := by rw [ntM_k (by decide) (by decide), gup_k _ _ (by decide), e48]
        have n57 := ntM_57 (m := m) (m' := (gup (gupA (ctM (apM m a (nI (tcN p n (pk3 k0 k1 k2)))) 3 p n b (grp (m.1 48) P hr b) P (nI 1)) 4 (jhP (upd ((apM m a (nI (tcN p n (pk3 k0 k1 k2)))).1 4) n (nI (k ||| (grp (m.1 48) P hr b)))) N)) 46 0 (nI 0))) (a := a) (by rw [gup_k _ _ (by decide), e57]) (by rw [gup_k _ _ (by decide), e52]) (by rw [gup_i _ _ (by decide), e46])
        have tk : tlP (m.1 52) n p b (grp (m.1 48) P hr b) P N (3 + n) = nI (k ||| (grp (m.1 48) P hr b)) := tlP_kn (by omega) (by omega) hb hP6 hnN hN3 ek ok5
        have hres : nI (pc6 (k ||| (grp (m.1 48) P hr b))) - nI (pc6 k) = nI (pc6 ((grp (m.1 48) P hr b) &&& (k ^^^ 63))) := by
          rw [pc_or k hk _ hG, pk_sub (by omega), Nat.add_sub_cancel_left]
        have cT : Ca O (d + 3) kX7_tellIt [.ref 46, .ref 52, .int (nI hr), .int (nI p), .int (nI n)] none (ntM (gup (gupA (ctM (apM m a (nI (tcN p n (pk3 k0 k1 k2)))) 3 p n b (grp (m.1 48) P hr b) P (nI 1)) 4 (jhP (upd ((apM m a (nI (tcN p n (pk3 k0 k1 k2)))).1 4) n (nI (k ||| (grp (m.1 48) P hr b)))) N)) 46 0 (nI 0)) a) (gupA (ntM (gup (gupA (ctM (apM m a (nI (tcN p n (pk3 k0 k1 k2)))) 3 p n b (grp (m.1 48) P hr b) P (nI 1)) 4 (jhP (upd ((apM m a (nI (tcN p n (pk3 k0 k1 k2)))).1 4) n (nI (k ||| (grp (m.1 48) P hr b)))) N)) 46 0 (nI 0)) a) 52 (tlP (m.1 52) n p b (grp (m.1 48) P hr b) P N)) := by
          have hc := c_tellIt_52 (O := O) (d := d + 2) (m := (ntM (gup (gupA (ctM (apM m a (nI (tcN p n (pk3 k0 k1 k2)))) 3 p n b (grp (m.1 48) P hr b) P (nI 1)) 4 (jhP (upd ((apM m a (nI (tcN p n (pk3 k0 k1 k2)))).1 4) n (nI (k ||| (grp (m.1 48) P hr b)))) N)) 46 0 (nI 0)) a)) (P := P) (N := N) (h := hr) (p := p) (n := n) (a := b) ((n46 4 (by decide) (by decide)).trans hP) hP6 ((n46 5 (by decide) (by decide)).trans hN) hN3 ok1 hpP (by omega) (by rw [n48]; exact eav) hb
          rw [n48, n52] at hc
          exact hc
        refine ⟨(nI (pc6 ((grp (m.1 48) P hr b) &&& (k ^^^ 63)))), (gupA (ctM (apM m a (nI (tcN p n (pk3 k0 k1 k2)))) 3 p n b (grp (m.1 48) P hr b) P (nI 1)) 4 (jhP (upd ((apM m a (nI (tcN p n (pk3 k0 k1 k2)))).1 4) n (nI (k ||| (grp (m.1 48) P hr b)))) N)), (gupA (ntM (gup (gupA (ctM (apM m a (nI (tcN p n (pk3 k0 k1 k2)))) 3 p n b (grp (m.1 48) P hr b) P (nI 1)) 4 (jhP (upd ((apM m a (nI (tcN p n (pk3 k0 k1 k2)))).1 4) n (nI (k ||| (grp (m.1 48) P hr b)))) N)) 46 0 (nI 0)) a) 52 (tlP (m.1 52) n p b (grp (m.1 48) P hr b) P N)), ?_, ?_, ?_⟩
        · show Go O (d + 4) kX6_tell _ _ 0 [.ref 0, .int (nI p), .int (nI n)] [] m
          refine go_aload_n dX6_tell_0 rfl ?_
          refine go_iload_n dX6_tell_1 rfl ?_
          refine go_callV1 (K' := kX6_isPerson) [_] dX6_tell_2 mX6_105 lX6_isPerson rfl (by decide) rfl (by decide) rfl rfl (Nat.le_of_ble_eq_true rfl) (Nat.le_of_ble_eq_true rfl) (c_isPerson_35 hT t5 hP6) ?_
          refine go_if_eq 16 dX6_tell_5 (by decide) (fun h => absurd h (bI_n0.mpr hip)) (fun h5 => ?_)
          refine go_aload_n dX6_tell_8 rfl ?_
          refine go_iload_n dX6_tell_9 rfl ?_
          refine go_callV1 (K' := kX6_isNews) [_] dX6_tell_10 mX6_116 lX6_isNews rfl (by decide) rfl (by decide) rfl rfl (Nat.le_of_ble_eq_true rfl) (Nat.le_of_ble_eq_true rfl) (c_isNews_35 hT t6 (by omega)) ?_
          refine go_if_ne 18 dX6_tell_13 (by decide) (fun h13 => ?_) (fun h => absurd h (bI_n0.mpr hin))
          refine go_aload_n dX6_tell_18 rfl ?_
          refine go_getc dX6_tell_19 fX6_19 rfl (by decide) (by decide) (by decide) rfl ?_
          refine go_aload_n dX6_tell_22 rfl ?_
          refine go_getm dX6_tell_23 fX6_47 rfl (by decide) (by decide) (by decide) rfl hT ?_
          refine go_iload_n dX6_tell_26 rfl ?_
          refine go_iload_n dX6_tell_27 rfl ?_
          refine go_callV1 (K' := kX5_allows) [_, _, _] dX6_tell_28 mX6_146 lX5_allows rfl (by decide) rfl (by decide) rfl rfl (Nat.le_of_ble_eq_true rfl) (Nat.le_of_ble_eq_true rfl) (cX) ?_
          refine go_if_ne 37 dX6_tell_31 (by decide) (fun h31 => ?_) (fun h => absurd h (by decide +kernel))
          refine go_aload_n dX6_tell_37 rfl ?_
          refine go_getc dX6_tell_38 fX6_33 rfl (by decide) (by decide) (by decide) rfl ?_
          refine go_iload_n dX6_tell_41 rfl ?_
          refine go_iload_n dX6_tell_42 rfl ?_
          refine go_aload_n dX6_tell_43 rfl ?_
          refine go_getc dX6_tell_44 fX6_19 rfl (by decide) (by decide) (by decide) rfl ?_
          refine go_callV1 (K' := kX5_packedKnown) [] dX6_tell_47 mX6_150 lX5_packedKnown rfl (by decide) rfl (by decide) rfl rfl (Nat.le_of_ble_eq_true rfl) (Nat.le_of_ble_eq_true rfl) (c_packedKnown_3 ((sk 0 (by omega)).trans ek0) ((sk 1 (by omega)).trans ek1) ((sk 2 (by omega)).trans ek2) hk0 hk1 hk2) ?_
          refine go_callS1 (K' := kX0_telling) [_, _, _] dX6_tell_50 mX6_153 lX0_telling rfl rfl (Nat.le_of_ble_eq_true rfl) (Nat.le_of_ble_eq_true rfl) (c_telling (by omega) (by omega) hq) ?_
          refine go_callV0 (K' := kX0_append) [_] dX6_tell_53 mX6_157 lX0_append rfl (by decide) rfl (by decide) rfl rfl (Nat.le_of_ble_eq_true rfl) (Nat.le_of_ble_eq_true rfl) (c_append a24 ha16) ?_
          refine go_aload_n dX6_tell_56 rfl ?_
          refine go_getc dX6_tell_57 fX6_19 rfl (by decide) (by decide) (by decide) rfl ?_
          refine go_aload_n dX6_tell_60 rfl ?_
          refine go_getm dX6_tell_61 fX6_47 rfl (by decide) (by decide) (by decide) rfl ((congrFun apM_2 0).trans hT) ?_
          refine go_iload_n dX6_tell_64 rfl ?_
          refine go_iload_n dX6_tell_65 rfl ?_
          refine go_callV1 (K' := kX5_spread) [_, _, _] dX6_tell_66 mX6_158 lX5_spread rfl (by decide) rfl (by decide) rfl rfl (Nat.le_of_ble_eq_true rfl) (Nat.le_of_ble_eq_true rfl) (c_spread_3_35 (P := P) (N := N) (h := hr) (a := b) (G := (grp (m.1 48) P hr b)) (k := k) (by rw [eA 3 (by decide) (by decide)]; exact s4) ok1 (by omega) (by omega) hb (by rw [eA 36 (by decide) (by decide)]; exact (tp p hr hpP ok1).trans eav) (by rw [eA 37 (by decide) (by decide)]; exact tg hr b ok1 hb) hG (by rw [eA 35 (by decide) (by decide)]; exact t5) hP6 (by rw [eA 35 (by decide) (by decide)]; exact t6) hN3 (by rw [eA 4 (by decide) (by decide)]; exact (sk n (by omega)).trans ek) hk) ?_
          exact go_iret dX6_tell_69 rfl rfl rfl
        · show Go O (d + 4) kX7_tell _ _ 0 [.ref 46, .int (nI p), .int (nI n), .null] [] (gupA (ctM (apM m a (nI (tcN p n (pk3 k0 k1 k2)))) 3 p n b (grp (m.1 48) P hr b) P (nI 1)) 4 (jhP (upd ((apM m a (nI (tcN p n (pk3 k0 k1 k2)))).1 4) n (nI (k ||| (grp (m.1 48) P hr b)))) N))
          refine go_aload_n dX7_tell_0 rfl ?_
          refine go_iconst (nI 0) dX7_tell_1 (by decide +kernel) ?_
          refine go_puti dX7_tell_2 fX7_77 rfl (by decide) (by decide) (by decide) rfl (fun _ _ _ h => by cases h; rfl) (Or.inl rfl) ?_
          refine go_aload_n dX7_tell_5 rfl ?_
          refine go_iload_n dX7_tell_6 rfl ?_
          refine go_callV1 (K' := kX7_noOne) [_] dX7_tell_7 mX7_150 lX7_noOne rfl (by decide) rfl (by decide) rfl rfl (Nat.le_of_ble_eq_true rfl) (Nat.le_of_ble_eq_true rfl) (c_noOne (by show (gupA (ctM (apM m a (nI (tcN p n (pk3 k0 k1 k2)))) 3 p n b (grp (m.1 48) P hr b) P (nI 1)) 4 (jhP (upd ((apM m a (nI (tcN p n (pk3 k0 k1 k2)))).1 4) n (nI (k ||| (grp (m.1 48) P hr b)))) N)).1 46 4 = _; rw [e46]; exact hP) hP6) ?_
          refine go_if_ne 21 dX7_tell_10 (by decide) (fun h => absurd h (fun z => z (bI_0.mpr (by rw [hip]; rfl)))) (fun h10 => ?_)
          refine go_aload_n dX7_tell_13 rfl ?_
          refine go_iload_n dX7_tell_14 rfl ?_
          refine go_callV1 (K' := kX7_noNews) [_] dX7_tell_15 mX7_155 lX7_noNews rfl (by decide) rfl (by decide) rfl rfl (Nat.le_of_ble_eq_true rfl) (Nat.le_of_ble_eq_true rfl) (c_noNews (by show (gupA (ctM (apM m a (nI (tcN p n (pk3 k0 k1 k2)))) 3 p n b (grp (m.1 48) P hr b) P (nI 1)) 4 (jhP (upd ((apM m a (nI (tcN p n (pk3 k0 k1 k2)))).1 4) n (nI (k ||| (grp (m.1 48) P hr b)))) N)).1 46 5 = _; rw [e46]; exact hN) (by omega)) ?_
          refine go_if_eq 23 dX7_tell_18 (by decide) (fun h18 => ?_) (fun h => absurd (bI_0.mpr (by rw [hin]; rfl)) h)
          refine go_aload_n dX7_tell_23 rfl ?_
          refine go_aload_n dX7_tell_24 rfl ?_
          refine go_getc dX7_tell_25 fX7_25 rfl (by decide) (by decide) (by decide) rfl ?_
          refine go_aload_n dX7_tell_28 rfl ?_
          refine go_geti dX7_tell_29 fX7_137 rfl (by decide) (by decide) (by decide) rfl ((congrFun e46 11).trans h11) ?_
          refine go_iload_n dX7_tell_32 rfl ?_
          refine go_iload_n dX7_tell_33 rfl ?_
          refine go_callV1 (K' := kX7_mayTell) [_, _, _, _] dX7_tell_34 mX7_161 lX7_mayTell rfl (by decide) rfl (by decide) rfl rfl (Nat.le_of_ble_eq_true rfl) (Nat.le_of_ble_eq_true rfl) (cM _ e46 e48 e49 e52) ?_
          refine go_if_ne 43 dX7_tell_37 (by decide) (fun h37 => ?_) (fun h => absurd h (by decide +kernel))
          refine go_aload_n dX7_tell_43 rfl ?_
          refine go_callV0 (K' := kX7_note) [] dX7_tell_44 mX7_169 lX7_note rfl (by decide) rfl (by decide) rfl rfl (Nat.le_of_ble_eq_true rfl) (Nat.le_of_ble_eq_true rfl) (c_note (a := a) (by show (gupA (ctM (apM m a (nI (tcN p n (pk3 k0 k1 k2)))) 3 p n b (grp (m.1 48) P hr b) P (nI 1)) 4 (jhP (upd ((apM m a (nI (tcN p n (pk3 k0 k1 k2)))).1 4) n (nI (k ||| (grp (m.1 48) P hr b)))) N)).1 46 21 = _; rw [e46]; exact a21) ha16) ?_
          refine go_aload_n dX7_tell_47 rfl ?_
          refine go_getc dX7_tell_48 fX7_25 rfl (by decide) (by decide) (by decide) rfl ?_
          refine go_iconst (nI 3) dX7_tell_51 (by decide +kernel) ?_
          refine go_iload_n dX7_tell_52 rfl ?_
          first | refine go_iadd_n dX7_tell_53 ?_ | refine go_iadd dX7_tell_53 rfl ?_
          refine go_iald dX7_tell_54 rfl (by decide) rfl (by omega) (by decide) ((congrFun n52 (3 + n)).trans ek) ?_
          refine go_callS1 (K' := kX7_many) [_] dX7_tell_55 mX7_143 lX7_many rfl rfl (Nat.le_of_ble_eq_true rfl) (Nat.le_of_ble_eq_true rfl) (c_many (by omega)) ?_
          refine go_istore_n (L' := [_, _, _, _]) dX7_tell_58 (by decide) rfl ?_
          refine go_aload_n dX7_tell_59 rfl ?_
          refine go_aload_n dX7_tell_60 rfl ?_
          refine go_getc dX7_tell_61 fX7_25 rfl (by decide) (by decide) (by decide) rfl ?_
          refine go_aload_n dX7_tell_64 rfl ?_
          refine go_geti dX7_tell_65 fX7_137 rfl (by decide) (by decide) (by decide) rfl ((n46 11 (by decide) (by decide)).trans h11) ?_
          refine go_iload_n dX7_tell_68 rfl ?_
          refine go_iload_n dX7_tell_69 rfl ?_
          refine go_callV0 (K' := kX7_tellIt) [_, _, _, _] dX7_tell_70 mX7_172 lX7_tellIt rfl (by decide) rfl (by decide) rfl rfl (Nat.le_of_ble_eq_true rfl) (Nat.le_of_ble_eq_true rfl) (cT) ?_
          refine go_aload_n dX7_tell_73 rfl ?_
          refine go_getc dX7_tell_74 fX7_25 rfl (by decide) (by decide) (by decide) rfl ?_
          refine go_iconst (nI 3) dX7_tell_77 (by decide +kernel) ?_
          refine go_iload_n dX7_tell_78 rfl ?_
          first | refine go_iadd_n dX7_tell_79 ?_ | refine go_iadd dX7_tell_79 rfl ?_
          refine go_iald dX7_tell_80 rfl (by decide) rfl (by omega) (by decide) tk ?_
          refine go_callS1 (K' := kX7_many) [_] dX7_tell_81 mX7_143 lX7_many rfl rfl (Nat.le_of_ble_eq_true rfl) (Nat.le_of_ble_eq_true rfl) (c_many (a := k ||| (grp (m.1 48) P hr b)) (by have := or_lt64 hk hG; omega)) ?_
          refine go_iload_n dX7_tell_84 rfl ?_
          refine go_isub dX7_tell_85 hres ?_
          exact go_iret dX7_tell_86 rfl rfl rfl
        · obtain ⟨t0, y1, y2⟩ := ok4 n (by omega) hnN
          have hlm := hlim n hnN
          rw [y2, hlm.2] at z3
          have y3 := (nI_ltI (by omega) (by omega)).mp z3
          have okT := tlP_ok (f := m.1 52) (n := n) (p := p) (a := b) (G := (grp (m.1 48) P hr b)) (P := P) (N := N) (by omega) (by omega) hb hP6 h4.2.2 hnN hG y2 y3 hlm.1
          have m52 : (gupA (ntM (gup (gupA (ctM (apM m a (nI (tcN p n (pk3 k0 k1 k2)))) 3 p n b (grp (m.1 48) P hr b) P (nI 1)) 4 (jhP (upd ((apM m a (nI (tcN p n (pk3 k0 k1 k2)))).1 4) n (nI (k ||| (grp (m.1 48) P hr b)))) N)) 46 0 (nI 0)) a) 52 (tlP (m.1 52) n p b (grp (m.1 48) P hr b) P N)).1 52 = tlP (m.1 52) n p b (grp (m.1 48) P hr b) P N := gupA_s _ _ _
          have nk : ∀ i, i ≠ 3 → i ≠ 4 → i ≠ 5 → i ≠ 6 → i ≠ 7 → i ≠ 24 → i ≠ 25 → i ≠ 46 → i ≠ 52 → i ≠ 57 → (gupA (ntM (gup (gupA (ctM (apM m a (nI (tcN p n (pk3 k0 k1 k2)))) 3 p n b (grp (m.1 48) P hr b) P (nI 1)) 4 (jhP (upd ((apM m a (nI (tcN p n (pk3 k0 k1 k2)))).1 4) n (nI (k ||| (grp (m.1 48) P hr b)))) N)) 46 0 (nI 0)) a) 52 (tlP (m.1 52) n p b (grp (m.1 48) P hr b) P N)).1 i = m.1 i := by
            intro i q1 q2 q3 q4 q5 q6 q7 q8 q9 q10
            rw [gupA_k _ _ q9, ntM_k q8 q10, gup_k _ _ q8, e1 i q2 q3 q4 q5 q6 q7]
          have nf : ∀ i, i ≠ 0 → i ≠ 11 → i ≠ 21 → (gupA (ntM (gup (gupA (ctM (apM m a (nI (tcN p n (pk3 k0 k1 k2)))) 3 p n b (grp (m.1 48) P hr b) P (nI 1)) 4 (jhP (upd ((apM m a (nI (tcN p n (pk3 k0 k1 k2)))).1 4) n (nI (k ||| (grp (m.1 48) P hr b)))) N)) 46 0 (nI 0)) a) 52 (tlP (m.1 52) n p b (grp (m.1 48) P hr b) P N)).1 46 i = m.1 46 i := by
            intro i q1 q2 q3
            rw [gupA_k _ _ (by decide), n46 i q1 q3]
          have hSa : StP (apM m a (nI (tcN p n (pk3 k0 k1 k2)))) 3 (m.1 52) hr := h4.1.kept (congrFun (eA 3 (by decide) (by decide)) 4) (eA 4 (by decide) (by decide)) (eA 5 (by decide) (by decide)) (eA 6 (by decide) (by decide)) (eA 7 (by decide) (by decide))
          have hSb := hSa.spread (n := n) (p := p) (a := b) (G := (grp (m.1 48) P hr b)) (P := P) (N := N) (k := k) (by omega) (by omega) hb hP6 (by rw [eA (3 + 1) (by decide) (by decide)]; exact (sk n (by omega)).trans ek)
          have x3 : ∀ i, i ≠ 46 → i ≠ 52 → i ≠ 57 → (gupA (ntM (gup (gupA (ctM (apM m a (nI (tcN p n (pk3 k0 k1 k2)))) 3 p n b (grp (m.1 48) P hr b) P (nI 1)) 4 (jhP (upd ((apM m a (nI (tcN p n (pk3 k0 k1 k2)))).1 4) n (nI (k ||| (grp (m.1 48) P hr b)))) N)) 46 0 (nI 0)) a) 52 (tlP (m.1 52) n p b (grp (m.1 48) P hr b) P N)).1 i = (gupA (ctM (apM m a (nI (tcN p n (pk3 k0 k1 k2)))) 3 p n b (grp (m.1 48) P hr b) P (nI 1)) 4 (jhP (upd ((apM m a (nI (tcN p n (pk3 k0 k1 k2)))).1 4) n (nI (k ||| (grp (m.1 48) P hr b)))) N)).1 i := by
            intro i q1 q2 q3
            rw [gupA_k _ _ q2, ntM_k q1 q3, gup_k _ _ q1]
          have hSc : StP (gupA (ntM (gup (gupA (ctM (apM m a (nI (tcN p n (pk3 k0 k1 k2)))) 3 p n b (grp (m.1 48) P hr b) P (nI 1)) 4 (jhP (upd ((apM m a (nI (tcN p n (pk3 k0 k1 k2)))).1 4) n (nI (k ||| (grp (m.1 48) P hr b)))) N)) 46 0 (nI 0)) a) 52 (tlP (m.1 52) n p b (grp (m.1 48) P hr b) P N)) 3 (tlP (m.1 52) n p b (grp (m.1 48) P hr b) P N) hr := hSb.kept (congrFun (x3 3 (by decide) (by decide) (by decide)) 4) (x3 (3 + 1) (by decide) (by decide) (by decide)) (x3 (3 + 2) (by decide) (by decide) (by decide)) (x3 (3 + 3) (by decide) (by decide) (by decide)) (x3 (3 + 4) (by decide) (by decide) (by decide))
          have hPg : IvP (gupA (ntM (gup (gupA (ctM (apM m a (nI (tcN p n (pk3 k0 k1 k2)))) 3 p n b (grp (m.1 48) P hr b) P (nI 1)) 4 (jhP (upd ((apM m a (nI (tcN p n (pk3 k0 k1 k2)))).1 4) n (nI (k ||| (grp (m.1 48) P hr b)))) N)) 46 0 (nI 0)) a) 52 (tlP (m.1 52) n p b (grp (m.1 48) P hr b) P N)) N lim hr := by
            unfold IvP
            rw [m52]
            refine ⟨hSc, ?_, okT⟩
            rw [gupA_k _ _ (by decide), n46 11 (by decide) (by decide)]
            exact h11
          obtain ⟨a', hA⟩ := h5.push (m2 := (gupA (ntM (gup (gupA (ctM (apM m a (nI (tcN p n (pk3 k0 k1 k2)))) 3 p n b (grp (m.1 48) P hr b) P (nI 1)) 4 (jhP (upd ((apM m a (nI (tcN p n (pk3 k0 k1 k2)))).1 4) n (nI (k ||| (grp (m.1 48) P hr b)))) N)) 46 0 (nI 0)) a) 52 (tlP (m.1 52) n p b (grp (m.1 48) P hr b) P N))) (hr' := hr) (x := (nI (tcN p n (pk3 k0 k1 k2)))) hP6 hN3 h4.2.2 h11 (by rw [x3 24 (by decide) (by decide) (by decide), gupA_k _ _ (by decide), ctM_o _ _ _ _ _ _ _ (by decide) (by decide) (by decide)]) (by rw [x3 25 (by decide) (by decide) (by decide), gupA_k _ _ (by decide), ctM_o _ _ _ _ _ _ _ (by decide) (by decide) (by decide)]) (by rw [gupA_k _ _ (by decide)]; exact n57.1) (by rw [gupA_k _ _ (by decide)]; exact n57.2) (nk 48 (by decide) (by decide) (by decide) (by decide) (by decide) (by decide) (by decide) (by decide) (by decide) (by decide)) (Or.inr ⟨p, n, b, k0, k1, k2, hpP, hnN, hb, eav, ek0, ek1, ek2, hk0, hk1, hk2, rfl, rfl, by rw [m52]; exact PgE.rf _⟩)
          exact Inv.mk5 h1 h2 h3 h6 h7 h8 (by show (ntM _ a).2 = m.2; rw [ntM_2]; exact apM_2) nk nf hPg hA
theorem op_tell {O : gOm} {d : Nat} {m : gMem} {p n : Int32} (h0 : Inv m) : OpOk O (d + 4) kX6_tell kX7_tell [.int p, .int n] m := by
  have hh := h0
  obtain ⟨P, N, lw, hr, a, c, L, lim, h1, h2, h3, h4, h5, h6, h7, h8⟩ := hh
  rcases h1 with ⟨e, -⟩ | ⟨e, -⟩
  · exact op_tell_29 h0 e
  · exact op_tell_35 h0 e
